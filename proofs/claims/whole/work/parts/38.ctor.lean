/-! CONSTRUCTORS of the class -/
def t00 : zT := (fun _ => 0, upd (fillN (fun _ => 0) 259 (-1)) 0 (nI 0), fillN (fun _ => 0) 259 (-1), fun _ => 0)
theorem tr_At.fr {h h' : q_H} {t : Nat} {dt vr ow nx : Nat → Int32} (hT : tr_At h t dt vr ow nx) (hf : ∀ x, t ≤ x → x ≤ t + 4 → h' x = h x) : tr_At h' t dt vr ow nx := ⟨(hf t (by omega) (by omega)).trans hT.1, (hf (t + 1) (by omega) (by omega)).trans hT.2.1, (hf (t + 2) (by omega) (by omega)).trans hT.2.2.1, (hf (t + 3) (by omega) (by omega)).trans hT.2.2.2.1, (hf (t + 4) (by omega) (by omega)).trans hT.2.2.2.2⟩
theorem sv_At.fr {h h' : q_H} {s : Nat} {lf : Nat → Option Nat} {ln ap ag : Nat} {up al : Bool} (hV : sv_At h s lf ln ap ag up al) (hf : ∀ x, s ≤ x → x ≤ s + 1 → h' x = h x) : sv_At h' s lf ln ap ag up al := ⟨(hf s (by omega) (by omega)).trans hV.1, (hf (s + 1) (by omega) (by omega)).trans hV.2⟩
theorem ss_At.fr {h h' : q_H} {s : Nat} {w ev : Nat → Int32} {cn : Nat} {op du : Bool} {sv : Nat} {to he : Int32} (hS : ss_At h s w ev cn op du sv to he) (hf : ∀ x, s ≤ x → x ≤ s + 2 → h' x = h x) : ss_At h' s w ev cn op du sv to he := ⟨(hf s (by omega) (by omega)).trans hS.1, (hf (s + 1) (by omega) (by omega)).trans hS.2.1, (hf (s + 2) (by omega) (by omega)).trans hS.2.2⟩
set_option maxHeartbeats 4000000 in
set_option maxRecDepth 100000 in
theorem c_tr_init {l : Launch} {G : q_G} (htr : l.stackTraces = false) {h : q_H} {N : Nat} (ho : h N = some (.inr (3, [.null, .null, .null, .null]))) : q_Met l G m_tr_init 1 23 4 820 [.ref (N)] h N (fun o h' N' => o = .inl none ∧ N' = N + 4 ∧ tr_At h' N t00.1 t00.2.1 t00.2.2.1 t00.2.2.2 ∧ ∀ x, x < N → h' x = h x) := by
  refine q_Met.mk htr (by decide +kernel) rfl (List.forall_mem_cons.mpr ⟨rfl, fun _ h => nomatch h⟩) (Nat.le_of_ble_eq_true rfl) ?_
  refine e_aload_n (pc := 0) d_tr_init_0 rfl ?_
  refine e_objInit (pc := 1) d_tr_init_1 k_33 k_22 k_23 (by decide) (Nat.le_of_ble_eq_true rfl) ?_
  refine e_aload_n (pc := 4) d_tr_init_4 rfl ?_
  refine e_sipush (pc := 5) d_tr_init_5 (v := (nI (259))) rfl ?_
  refine e_newI (pc := 8) (n' := 259) (cc' := 3) (ss' := 561) d_tr_init_8 k_55 (nI_pos (by decide)) (nI_clamp (by decide)) (by decide) (by omega) (by omega) ?_
  obtain ⟨h1, eh2⟩ : ∃ x, x = q_up h (N + 1) (q_ai 259 (fun _ => 0)) := ⟨_, rfl⟩
  refine q_Ev.hp (h1 := h1) eh2 ?_
  have hc3 : h1 (N) = some (.inr (3, [.null, .null, .null, .null])) := by rw [eh2, q_up_n _ (show (N : Nat) ≠ N + 1 by omega)]; exact ho
  have hc4 : h1 (N + 1) = some (q_ai 259 (fun _ => 0)) := by rw [eh2]; exact q_up_s _ _ _
  show q_Ev l G m_tr_init 1 23 3 561 10 [some (.ref (N))] [.ref (N + 1), .ref (N)] h1 (N + 1) _
  refine e_putFE (pc := 10) d_tr_init_10 (fs2 := [.ref (N + 1), .null, .null, .null]) fl_tr_9 rfl rfl hc3 (Nat.le_of_ble_eq_true rfl) (fun _ => rfl) (fun _ => rfl) rfl ?_
  obtain ⟨h5, eh6⟩ : ∃ x, x = q_up h1 (N) (.inr (3, [.ref (N + 1), .null, .null, .null])) := ⟨_, rfl⟩
  rw [← eh6]
  have hc7 : h5 (N) = some (.inr (3, [.ref (N + 1), .null, .null, .null])) := by rw [eh6]; exact q_up_s _ _ _
  have hc8 : h5 (N + 1) = some (q_ai 259 (fun _ => 0)) := by rw [eh6, q_up_n _ (show (N + 1 : Nat) ≠ N by omega)]; exact hc4
  refine e_aload_n (pc := 13) d_tr_init_13 rfl ?_
  refine e_sipush (pc := 14) d_tr_init_14 (v := (nI (259))) rfl ?_
  refine e_newI (pc := 17) (n' := 259) (cc' := 2) (ss' := 302) d_tr_init_17 k_55 (nI_pos (by decide)) (nI_clamp (by decide)) (by decide) (by omega) (by omega) ?_
  obtain ⟨h9, eh10⟩ : ∃ x, x = q_up h5 (N + 2) (q_ai 259 (fun _ => 0)) := ⟨_, rfl⟩
  refine q_Ev.hp (h1 := h9) eh10 ?_
  have hc11 : h9 (N) = some (.inr (3, [.ref (N + 1), .null, .null, .null])) := by rw [eh10, q_up_n _ (show (N : Nat) ≠ N + 2 by omega)]; exact hc7
  have hc12 : h9 (N + 1) = some (q_ai 259 (fun _ => 0)) := by rw [eh10, q_up_n _ (show (N + 1 : Nat) ≠ N + 2 by omega)]; exact hc8
  have hc13 : h9 (N + 2) = some (q_ai 259 (fun _ => 0)) := by rw [eh10]; exact q_up_s _ _ _
  show q_Ev l G m_tr_init 1 23 2 302 19 [some (.ref (N))] [.ref (N + 2), .ref (N)] h9 (N + 2) _
  refine e_putFE (pc := 19) d_tr_init_19 (fs2 := [.ref (N + 1), .ref (N + 2), .null, .null]) fl_tr_15 rfl rfl hc11 (Nat.le_of_ble_eq_true rfl) (fun _ => rfl) (fun _ => rfl) rfl ?_
  obtain ⟨h14, eh15⟩ : ∃ x, x = q_up h9 (N) (.inr (3, [.ref (N + 1), .ref (N + 2), .null, .null])) := ⟨_, rfl⟩
  rw [← eh15]
  have hc16 : h14 (N) = some (.inr (3, [.ref (N + 1), .ref (N + 2), .null, .null])) := by rw [eh15]; exact q_up_s _ _ _
  have hc17 : h14 (N + 1) = some (q_ai 259 (fun _ => 0)) := by rw [eh15, q_up_n _ (show (N + 1 : Nat) ≠ N by omega)]; exact hc12
  have hc18 : h14 (N + 2) = some (q_ai 259 (fun _ => 0)) := by rw [eh15, q_up_n _ (show (N + 2 : Nat) ≠ N by omega)]; exact hc13
  refine e_aload_n (pc := 22) d_tr_init_22 rfl ?_
  refine e_sipush (pc := 23) d_tr_init_23 (v := (nI (259))) rfl ?_
  refine e_newI (pc := 26) (n' := 259) (cc' := 1) (ss' := 43) d_tr_init_26 k_55 (nI_pos (by decide)) (nI_clamp (by decide)) (by decide) (by omega) (by omega) ?_
  obtain ⟨h19, eh20⟩ : ∃ x, x = q_up h14 (N + 3) (q_ai 259 (fun _ => 0)) := ⟨_, rfl⟩
  refine q_Ev.hp (h1 := h19) eh20 ?_
  have hc21 : h19 (N) = some (.inr (3, [.ref (N + 1), .ref (N + 2), .null, .null])) := by rw [eh20, q_up_n _ (show (N : Nat) ≠ N + 3 by omega)]; exact hc16
  have hc22 : h19 (N + 1) = some (q_ai 259 (fun _ => 0)) := by rw [eh20, q_up_n _ (show (N + 1 : Nat) ≠ N + 3 by omega)]; exact hc17
  have hc23 : h19 (N + 2) = some (q_ai 259 (fun _ => 0)) := by rw [eh20, q_up_n _ (show (N + 2 : Nat) ≠ N + 3 by omega)]; exact hc18
  have hc24 : h19 (N + 3) = some (q_ai 259 (fun _ => 0)) := by rw [eh20]; exact q_up_s _ _ _
  show q_Ev l G m_tr_init 1 23 1 43 28 [some (.ref (N))] [.ref (N + 3), .ref (N)] h19 (N + 3) _
  refine e_putFE (pc := 28) d_tr_init_28 (fs2 := [.ref (N + 1), .ref (N + 2), .ref (N + 3), .null]) fl_tr_18 rfl rfl hc21 (Nat.le_of_ble_eq_true rfl) (fun _ => rfl) (fun _ => rfl) rfl ?_
  obtain ⟨h25, eh26⟩ : ∃ x, x = q_up h19 (N) (.inr (3, [.ref (N + 1), .ref (N + 2), .ref (N + 3), .null])) := ⟨_, rfl⟩
  rw [← eh26]
  have hc27 : h25 (N) = some (.inr (3, [.ref (N + 1), .ref (N + 2), .ref (N + 3), .null])) := by rw [eh26]; exact q_up_s _ _ _
  have hc28 : h25 (N + 1) = some (q_ai 259 (fun _ => 0)) := by rw [eh26, q_up_n _ (show (N + 1 : Nat) ≠ N by omega)]; exact hc22
  have hc29 : h25 (N + 2) = some (q_ai 259 (fun _ => 0)) := by rw [eh26, q_up_n _ (show (N + 2 : Nat) ≠ N by omega)]; exact hc23
  have hc30 : h25 (N + 3) = some (q_ai 259 (fun _ => 0)) := by rw [eh26, q_up_n _ (show (N + 3 : Nat) ≠ N by omega)]; exact hc24
  refine e_aload_n (pc := 31) d_tr_init_31 rfl ?_
  refine e_bipush (pc := 32) d_tr_init_32 (v := (nI (43))) rfl ?_
  refine e_newI (pc := 34) (n' := 43) (cc' := 0) (ss' := 0) d_tr_init_34 k_55 (nI_pos (by decide)) (nI_clamp (by decide)) (by decide) (by omega) (by omega) ?_
  obtain ⟨h31, eh32⟩ : ∃ x, x = q_up h25 (N + 4) (q_ai 43 (fun _ => 0)) := ⟨_, rfl⟩
  refine q_Ev.hp (h1 := h31) eh32 ?_
  have hc33 : h31 (N) = some (.inr (3, [.ref (N + 1), .ref (N + 2), .ref (N + 3), .null])) := by rw [eh32, q_up_n _ (show (N : Nat) ≠ N + 4 by omega)]; exact hc27
  have hc34 : h31 (N + 1) = some (q_ai 259 (fun _ => 0)) := by rw [eh32, q_up_n _ (show (N + 1 : Nat) ≠ N + 4 by omega)]; exact hc28
  have hc35 : h31 (N + 2) = some (q_ai 259 (fun _ => 0)) := by rw [eh32, q_up_n _ (show (N + 2 : Nat) ≠ N + 4 by omega)]; exact hc29
  have hc36 : h31 (N + 3) = some (q_ai 259 (fun _ => 0)) := by rw [eh32, q_up_n _ (show (N + 3 : Nat) ≠ N + 4 by omega)]; exact hc30
  have hc37 : h31 (N + 4) = some (q_ai 43 (fun _ => 0)) := by rw [eh32]; exact q_up_s _ _ _
  show q_Ev l G m_tr_init 1 23 0 0 36 [some (.ref (N))] [.ref (N + 4), .ref (N)] h31 (N + 4) _
  refine e_putFE (pc := 36) d_tr_init_36 (fs2 := [.ref (N + 1), .ref (N + 2), .ref (N + 3), .ref (N + 4)]) fl_tr_21 rfl rfl hc33 (Nat.le_of_ble_eq_true rfl) (fun _ => rfl) (fun _ => rfl) rfl ?_
  obtain ⟨h38, eh39⟩ : ∃ x, x = q_up h31 (N) (.inr (3, [.ref (N + 1), .ref (N + 2), .ref (N + 3), .ref (N + 4)])) := ⟨_, rfl⟩
  rw [← eh39]
  have hc40 : h38 (N) = some (.inr (3, [.ref (N + 1), .ref (N + 2), .ref (N + 3), .ref (N + 4)])) := by rw [eh39]; exact q_up_s _ _ _
  have hc41 : h38 (N + 1) = some (q_ai 259 (fun _ => 0)) := by rw [eh39, q_up_n _ (show (N + 1 : Nat) ≠ N by omega)]; exact hc34
  have hc42 : h38 (N + 2) = some (q_ai 259 (fun _ => 0)) := by rw [eh39, q_up_n _ (show (N + 2 : Nat) ≠ N by omega)]; exact hc35
  have hc43 : h38 (N + 3) = some (q_ai 259 (fun _ => 0)) := by rw [eh39, q_up_n _ (show (N + 3 : Nat) ≠ N by omega)]; exact hc36
  have hc44 : h38 (N + 4) = some (q_ai 43 (fun _ => 0)) := by rw [eh39, q_up_n _ (show (N + 4 : Nat) ≠ N by omega)]; exact hc37
  refine e_aload_n (pc := 39) d_tr_init_39 rfl ?_
  refine e_get (pc := 40) d_tr_init_40 fl_tr_15 hc40 rfl ?_
  refine e_iconst (pc := 43) d_tr_init_43 (v := (-1)) rfl ?_
  refine e_callS (As := [.ref (N + 2), .int (-1)]) (st := []) (cc2 := 0) (ss2 := 0) (pc := 44) d_tr_init_44 rfl cs_tr_24 (c_ar_fill htr (v := -1) (by decide) hc42) rfl (by decide) (by decide) (by omega) (by omega) (Nat.le_of_ble_eq_true rfl) (fun _ _ _ hq => nomatch hq.1) (fun r h2 N2 hq => ?_)
  obtain ⟨hr, e1, e2⟩ := hq
  cases hr
  rw [e1, e2]
  clear e1 e2
  show q_Ev l G m_tr_init 1 23 0 0 47 [some (.ref (N))] [] _ (N + 4) _
  -- filled
  obtain ⟨h45, eh46⟩ : ∃ x, x = q_up h38 (N + 2) (q_ai 259 (fillN (fun _ => 0) 259 (-1))) := ⟨_, rfl⟩
  rw [← eh46]
  have hc47 : h45 (N) = some (.inr (3, [.ref (N + 1), .ref (N + 2), .ref (N + 3), .ref (N + 4)])) := by rw [eh46, q_up_n _ (show (N : Nat) ≠ N + 2 by omega)]; exact hc40
  have hc48 : h45 (N + 1) = some (q_ai 259 (fun _ => 0)) := by rw [eh46, q_up_n _ (show (N + 1 : Nat) ≠ N + 2 by omega)]; exact hc41
  have hc49 : h45 (N + 2) = some (q_ai 259 (fillN (fun _ => 0) 259 (-1))) := by rw [eh46]; exact q_up_s _ _ _
  have hc50 : h45 (N + 3) = some (q_ai 259 (fun _ => 0)) := by rw [eh46, q_up_n _ (show (N + 3 : Nat) ≠ N + 2 by omega)]; exact hc43
  have hc51 : h45 (N + 4) = some (q_ai 43 (fun _ => 0)) := by rw [eh46, q_up_n _ (show (N + 4 : Nat) ≠ N + 2 by omega)]; exact hc44
  refine e_aload_n (pc := 47) d_tr_init_47 rfl ?_
  refine e_get (pc := 48) d_tr_init_48 fl_tr_18 hc47 rfl ?_
  refine e_iconst (pc := 51) d_tr_init_51 (v := (-1)) rfl ?_
  refine e_callS (As := [.ref (N + 3), .int (-1)]) (st := []) (cc2 := 0) (ss2 := 0) (pc := 52) d_tr_init_52 rfl cs_tr_24 (c_ar_fill htr (v := -1) (by decide) hc50) rfl (by decide) (by decide) (by omega) (by omega) (Nat.le_of_ble_eq_true rfl) (fun _ _ _ hq => nomatch hq.1) (fun r h2 N2 hq => ?_)
  obtain ⟨hr, e1, e2⟩ := hq
  cases hr
  rw [e1, e2]
  clear e1 e2
  show q_Ev l G m_tr_init 1 23 0 0 55 [some (.ref (N))] [] _ (N + 4) _
  -- filled
  obtain ⟨h52, eh53⟩ : ∃ x, x = q_up h45 (N + 3) (q_ai 259 (fillN (fun _ => 0) 259 (-1))) := ⟨_, rfl⟩
  rw [← eh53]
  have hc54 : h52 (N) = some (.inr (3, [.ref (N + 1), .ref (N + 2), .ref (N + 3), .ref (N + 4)])) := by rw [eh53, q_up_n _ (show (N : Nat) ≠ N + 3 by omega)]; exact hc47
  have hc55 : h52 (N + 1) = some (q_ai 259 (fun _ => 0)) := by rw [eh53, q_up_n _ (show (N + 1 : Nat) ≠ N + 3 by omega)]; exact hc48
  have hc56 : h52 (N + 2) = some (q_ai 259 (fillN (fun _ => 0) 259 (-1))) := by rw [eh53, q_up_n _ (show (N + 2 : Nat) ≠ N + 3 by omega)]; exact hc49
  have hc57 : h52 (N + 3) = some (q_ai 259 (fillN (fun _ => 0) 259 (-1))) := by rw [eh53]; exact q_up_s _ _ _
  have hc58 : h52 (N + 4) = some (q_ai 43 (fun _ => 0)) := by rw [eh53, q_up_n _ (show (N + 4 : Nat) ≠ N + 3 by omega)]; exact hc51
  refine e_aload_n (pc := 55) d_tr_init_55 rfl ?_
  refine e_get (pc := 56) d_tr_init_56 fl_tr_15 hc54 rfl ?_
  refine e_iconst (pc := 59) d_tr_init_59 (v := (nI (0))) rfl ?_
  refine e_iconst (pc := 60) d_tr_init_60 (v := (nI (0))) rfl ?_
  refine e_iastN (pc := 61) d_tr_init_61 hc56 (by omega) (by decide) ?_
  obtain ⟨h59, eh60⟩ : ∃ x, x = q_up h52 (N + 2) (q_ai 259 (upd (fillN (fun _ => 0) 259 (-1)) (0) ((nI (0))))) := ⟨_, rfl⟩
  rw [← eh60]
  have hc61 : h59 (N) = some (.inr (3, [.ref (N + 1), .ref (N + 2), .ref (N + 3), .ref (N + 4)])) := by rw [eh60, q_up_n _ (show (N : Nat) ≠ N + 2 by omega)]; exact hc54
  have hc62 : h59 (N + 1) = some (q_ai 259 (fun _ => 0)) := by rw [eh60, q_up_n _ (show (N + 1 : Nat) ≠ N + 2 by omega)]; exact hc55
  have hc63 : h59 (N + 2) = some (q_ai 259 (upd (fillN (fun _ => 0) 259 (-1)) (0) ((nI (0))))) := by rw [eh60]; exact q_up_s _ _ _
  have hc64 : h59 (N + 3) = some (q_ai 259 (fillN (fun _ => 0) 259 (-1))) := by rw [eh60, q_up_n _ (show (N + 3 : Nat) ≠ N + 2 by omega)]; exact hc57
  have hc65 : h59 (N + 4) = some (q_ai 43 (fun _ => 0)) := by rw [eh60, q_up_n _ (show (N + 4 : Nat) ≠ N + 2 by omega)]; exact hc58
  exact e_vret (pc := 62) d_tr_init_62 rfl (⟨rfl, rfl, ⟨hc61, hc62, hc63, hc64, hc65⟩, fun x hx => by subst_vars; simp only [q_up]; (repeat' rw [if_neg (by omega)])⟩)
