/-! CONSTRUCTORS of the class -/
def t00 : zT := (fun _ => 0, upd (fillN (fun _ => 0) 259 (-1)) 0 (nI 0), fillN (fun _ => 0) 259 (-1), fun _ => 0)
theorem tr_At.fr {h h' : q_H} {t : Nat} {dt vr ow nx : Nat → Int32} (hT : tr_At h t dt vr ow nx) (hf : ∀ x, t ≤ x → x ≤ t + 4 → h' x = h x) : tr_At h' t dt vr ow nx := ⟨(hf t (by omega) (by omega)).trans hT.1, (hf (t + 1) (by omega) (by omega)).trans hT.2.1, (hf (t + 2) (by omega) (by omega)).trans hT.2.2.1, (hf (t + 3) (by omega) (by omega)).trans hT.2.2.2.1, (hf (t + 4) (by omega) (by omega)).trans hT.2.2.2.2⟩
theorem sv_At.fr {h h' : q_H} {s : Nat} {lf : Nat → Option Nat} {ln ap ag : Nat} {up al : Bool} (hV : sv_At h s lf ln ap ag up al) (hf : ∀ x, s ≤ x → x ≤ s + 1 → h' x = h x) : sv_At h' s lf ln ap ag up al := ⟨(hf s (by omega) (by omega)).trans hV.1, (hf (s + 1) (by omega) (by omega)).trans hV.2⟩
theorem ss_At.fr {h h' : q_H} {s : Nat} {w ev : Nat → Int32} {cn : Nat} {op du : Bool} {sv : Nat} {to he : Int32} (hS : ss_At h s w ev cn op du sv to he) (hf : ∀ x, s ≤ x → x ≤ s + 2 → h' x = h x) : ss_At h' s w ev cn op du sv to he := ⟨(hf s (by omega) (by omega)).trans hS.1, (hf (s + 1) (by omega) (by omega)).trans hS.2.1, (hf (s + 2) (by omega) (by omega)).trans hS.2.2⟩
set_option maxHeartbeats 4000000 in
set_option maxRecDepth 100000 in
theorem c_tr_init {l : Launch} {G : q_G} (htr : l.stackTraces = false) {h : q_H} {N : Nat} (ho : h N = some (.inr (3, [.null, .null, .null, .null]))) : q_Met l G m_tr_init 1 23 4 820 [.ref (N)] h N (fun o h' N' => o = .inl none ∧ N' = N + 4 ∧ tr_At h' N t00.1 t00.2.1 t00.2.2.1 t00.2.2.2 ∧ ∀ x, x < N → h' x = h x) := by
  refine q_Met.mk htr (by decide +kernel) rfl (List.forall_mem_cons.mpr ⟨rfl, fun _ h => nomatch h⟩) (Nat.le_of_ble_eq_true rfl) ?_
  refine e_aload_n (pc := 0) d_tr_init_0 rfl ?_
  refine e_objInit (pc := 1) d_tr_init_1 k_33 k_22 k_23 (by decide) (Nat.le_of_ble_eq_true rfl) ?_
  refine e_aload_n (pc := 4) d_tr_init_4 rfl ?_
  refine e_sipush (pc := 5) d_tr_init_5 (v := (nI (259))) rfl ?_
  refine e_newI (pc := 8) (n' := 259) (cc' := 3) (ss' := 561) d_tr_init_8 k_55 (nI_pos (by decide)) (nI_clamp (by decide)) (by decide) (by omega) (by omega) ?_
  obtain ⟨h1, eh2⟩ : ∃ x, x = q_up h (N + 1) (q_ai 259 (fun _ => 0)) := ⟨_, rfl⟩
  refine q_Ev.hp (h1 := h1) eh2 ?_
  have hc3 : h1 (N) = some (.inr (3, [.null, .null, .null, .null])) := by rw [eh2, q_up_n _ (show (N : Nat) ≠ N + 1 by omega)]; exact ho
  have hc4 : h1 (N + 1) = some (q_ai 259 (fun _ => 0)) := by rw [eh2]; exact q_up_s _ _ _
  show q_Ev l G m_tr_init 1 23 3 561 10 [some (.ref (N))] [.ref (N + 1), .ref (N)] h1 (N + 1) _
  refine e_putFE (pc := 10) d_tr_init_10 (fs2 := [.ref (N + 1), .null, .null, .null]) fl_tr_9 rfl rfl hc3 (Nat.le_of_ble_eq_true rfl) (fun _ => rfl) (fun _ => rfl) rfl ?_
  obtain ⟨h5, eh6⟩ : ∃ x, x = q_up h1 (N) (.inr (3, [.ref (N + 1), .null, .null, .null])) := ⟨_, rfl⟩
  rw [← eh6]
  have hc7 : h5 (N) = some (.inr (3, [.ref (N + 1), .null, .null, .null])) := by rw [eh6]; exact q_up_s _ _ _
  have hc8 : h5 (N + 1) = some (q_ai 259 (fun _ => 0)) := by rw [eh6, q_up_n _ (show (N + 1 : Nat) ≠ N by omega)]; exact hc4
  refine e_aload_n (pc := 13) d_tr_init_13 rfl ?_
  refine e_sipush (pc := 14) d_tr_init_14 (v := (nI (259))) rfl ?_
  refine e_newI (pc := 17) (n' := 259) (cc' := 2) (ss' := 302) d_tr_init_17 k_55 (nI_pos (by decide)) (nI_clamp (by decide)) (by decide) (by omega) (by omega) ?_
  obtain ⟨h9, eh10⟩ : ∃ x, x = q_up h5 (N + 2) (q_ai 259 (fun _ => 0)) := ⟨_, rfl⟩
  refine q_Ev.hp (h1 := h9) eh10 ?_
  have hc11 : h9 (N) = some (.inr (3, [.ref (N + 1), .null, .null, .null])) := by rw [eh10, q_up_n _ (show (N : Nat) ≠ N + 2 by omega)]; exact hc7
  have hc12 : h9 (N + 1) = some (q_ai 259 (fun _ => 0)) := by rw [eh10, q_up_n _ (show (N + 1 : Nat) ≠ N + 2 by omega)]; exact hc8
  have hc13 : h9 (N + 2) = some (q_ai 259 (fun _ => 0)) := by rw [eh10]; exact q_up_s _ _ _
  show q_Ev l G m_tr_init 1 23 2 302 19 [some (.ref (N))] [.ref (N + 2), .ref (N)] h9 (N + 2) _
  refine e_putFE (pc := 19) d_tr_init_19 (fs2 := [.ref (N + 1), .ref (N + 2), .null, .null]) fl_tr_15 rfl rfl hc11 (Nat.le_of_ble_eq_true rfl) (fun _ => rfl) (fun _ => rfl) rfl ?_
  obtain ⟨h14, eh15⟩ : ∃ x, x = q_up h9 (N) (.inr (3, [.ref (N + 1), .ref (N + 2), .null, .null])) := ⟨_, rfl⟩
  rw [← eh15]
  have hc16 : h14 (N) = some (.inr (3, [.ref (N + 1), .ref (N + 2), .null, .null])) := by rw [eh15]; exact q_up_s _ _ _
  have hc17 : h14 (N + 1) = some (q_ai 259 (fun _ => 0)) := by rw [eh15, q_up_n _ (show (N + 1 : Nat) ≠ N by omega)]; exact hc12
  have hc18 : h14 (N + 2) = some (q_ai 259 (fun _ => 0)) := by rw [eh15, q_up_n _ (show (N + 2 : Nat) ≠ N by omega)]; exact hc13
  refine e_aload_n (pc := 22) d_tr_init_22 rfl ?_
  refine e_sipush (pc := 23) d_tr_init_23 (v := (nI (259))) rfl ?_
  refine e_newI (pc := 26) (n' := 259) (cc' := 1) (ss' := 43) d_tr_init_26 k_55 (nI_pos (by decide)) (nI_clamp (by decide)) (by decide) (by omega) (by omega) ?_
  obtain ⟨h19, eh20⟩ : ∃ x, x = q_up h14 (N + 3) (q_ai 259 (fun _ => 0)) := ⟨_, rfl⟩
  refine q_Ev.hp (h1 := h19) eh20 ?_
  have hc21 : h19 (N) = some (.inr (3, [.ref (N + 1), .ref (N + 2), .null, .null])) := by rw [eh20, q_up_n _ (show (N : Nat) ≠ N + 3 by omega)]; exact hc16
  have hc22 : h19 (N + 1) = some (q_ai 259 (fun _ => 0)) := by rw [eh20, q_up_n _ (show (N + 1 : Nat) ≠ N + 3 by omega)]; exact hc17
  have hc23 : h19 (N + 2) = some (q_ai 259 (fun _ => 0)) := by rw [eh20, q_up_n _ (show (N + 2 : Nat) ≠ N + 3 by omega)]; exact hc18
  have hc24 : h19 (N + 3) = some (q_ai 259 (fun _ => 0)) := by rw [eh20]; exact q_up_s _ _ _
  show q_Ev l G m_tr_init 1 23 1 43 28 [some (.ref (N))] [.ref (N + 3), .ref (N)] h19 (N + 3) _
  refine e_putFE (pc := 28) d_tr_init_28 (fs2 := [.ref (N + 1), .ref (N + 2), .ref (N + 3), .null]) fl_tr_18 rfl rfl hc21 (Nat.le_of_ble_eq_true rfl) (fun _ => rfl) (fun _ => rfl) rfl ?_
  obtain ⟨h25, eh26⟩ : ∃ x, x = q_up h19 (N) (.inr (3, [.ref (N + 1), .ref (N + 2), .ref (N + 3), .null])) := ⟨_, rfl⟩
  rw [← eh26]
  have hc27 : h25 (N) = some (.inr (3, [.ref (N + 1), .ref (N + 2), .ref (N + 3), .null])) := by rw [eh26]; exact q_up_s _ _ _
  have hc28 : h25 (N + 1) = some (q_ai 259 (fun _ => 0)) := by rw [eh26, q_up_n _ (show (N + 1 : Nat) ≠ N by omega)]; exact hc22
  have hc29 : h25 (N + 2) = some (q_ai 259 (fun _ => 0)) := by rw [eh26, q_up_n _ (show (N + 2 : Nat) ≠ N by omega)]; exact hc23
  have hc30 : h25 (N + 3) = some (q_ai 259 (fun _ => 0)) := by rw [eh26, q_up_n _ (show (N + 3 : Nat) ≠ N by omega)]; exact hc24
  refine e_aload_n (pc := 31) d_tr_init_31 rfl ?_
  refine e_bipush (pc := 32) d_tr_init_32 (v := (nI (43))) rfl ?_
  refine e_newI (pc := 34) (n' := 43) (cc' := 0) (ss' := 0) d_tr_init_34 k_55 (nI_pos (by decide)) (nI_clamp (by decide)) (by decide) (by omega) (by omega) ?_
  obtain ⟨h31, eh32⟩ : ∃ x, x = q_up h25 (N + 4) (q_ai 43 (fun _ => 0)) := ⟨_, rfl⟩
  refine q_Ev.hp (h1 := h31) eh32 ?_
  have hc33 : h31 (N) = some (.inr (3, [.ref (N + 1), .ref (N + 2), .ref (N + 3), .null])) := by rw [eh32, q_up_n _ (show (N : Nat) ≠ N + 4 by omega)]; exact hc27
  have hc34 : h31 (N + 1) = some (q_ai 259 (fun _ => 0)) := by rw [eh32, q_up_n _ (show (N + 1 : Nat) ≠ N + 4 by omega)]; exact hc28
  have hc35 : h31 (N + 2) = some (q_ai 259 (fun _ => 0)) := by rw [eh32, q_up_n _ (show (N + 2 : Nat) ≠ N + 4 by omega)]; exact hc29
  have hc36 : h31 (N + 3) = some (q_ai 259 (fun _ => 0)) := by rw [eh32, q_up_n _ (show (N + 3 : Nat) ≠ N + 4 by omega)]; exact hc30
  have hc37 : h31 (N + 4) = some (q_ai 43 (fun _ => 0)) := by rw [eh32]; exact q_up_s _ _ _
  show q_Ev l G m_tr_init 1 23 0 0 36 [some (.ref (N))] [.ref (N + 4), .ref (N)] h31 (N + 4) _
  refine e_putFE (pc := 36) d_tr_init_36 (fs2 := [.ref (N + 1), .ref (N + 2), .ref (N + 3), .ref (N + 4)]) fl_tr_21 rfl rfl hc33 (Nat.le_of_ble_eq_true rfl) (fun _ => rfl) (fun _ => rfl) rfl ?_
  obtain ⟨h38, eh39⟩ : ∃ x, x = q_up h31 (N) (.inr (3, [.ref (N + 1), .ref (N + 2), .ref (N + 3), .ref (N + 4)])) := ⟨_, rfl⟩
  rw [← eh39]
  have hc40 : h38 (N) = some (.inr (3, [.ref (N + 1), .ref (N + 2), .ref (N + 3), .ref (N + 4)])) := by rw [eh39]; exact q_up_s _ _ _
  have hc41 : h38 (N + 1) = some (q_ai 259 (fun _ => 0)) := by rw [eh39, q_up_n _ (show (N + 1 : Nat) ≠ N by omega)]; exact hc34
  have hc42 : h38 (N + 2) = some (q_ai 259 (fun _ => 0)) := by rw [eh39, q_up_n _ (show (N + 2 : Nat) ≠ N by omega)]; exact hc35
  have hc43 : h38 (N + 3) = some (q_ai 259 (fun _ => 0)) := by rw [eh39, q_up_n _ (show (N + 3 : Nat) ≠ N by omega)]; exact hc36
  have hc44 : h38 (N + 4) = some (q_ai 43 (fun _ => 0)) := by rw [eh39, q_up_n _ (show (N + 4 : Nat) ≠ N by omega)]; exact hc37
  refine e_aload_n (pc := 39) d_tr_init_39 rfl ?_
  refine e_get (pc := 40) d_tr_init_40 fl_tr_15 hc40 rfl ?_
  refine e_iconst (pc := 43) d_tr_init_43 (v := (-1)) rfl ?_
  refine e_callS (As := [.ref (N + 2), .int (-1)]) (st := []) (cc2 := 0) (ss2 := 0) (pc := 44) d_tr_init_44 rfl cs_tr_24 (c_ar_fill htr (v := -1) (by decide) hc42) rfl (by decide) (by decide) (by omega) (by omega) (Nat.le_of_ble_eq_true rfl) (fun _ _ _ hq => nomatch hq.1) (fun r h2 N2 hq => ?_)
  obtain ⟨hr, e1, e2⟩ := hq
  cases hr
  rw [e1, e2]
  clear e1 e2
  show q_Ev l G m_tr_init 1 23 0 0 47 [some (.ref (N))] [] _ (N + 4) _
  -- filled
  obtain ⟨h45, eh46⟩ : ∃ x, x = q_up h38 (N + 2) (q_ai 259 (fillN (fun _ => 0) 259 (-1))) := ⟨_, rfl⟩
  rw [← eh46]
  have hc47 : h45 (N) = some (.inr (3, [.ref (N + 1), .ref (N + 2), .ref (N + 3), .ref (N + 4)])) := by rw [eh46, q_up_n _ (show (N : Nat) ≠ N + 2 by omega)]; exact hc40
  have hc48 : h45 (N + 1) = some (q_ai 259 (fun _ => 0)) := by rw [eh46, q_up_n _ (show (N + 1 : Nat) ≠ N + 2 by omega)]; exact hc41
  have hc49 : h45 (N + 2) = some (q_ai 259 (fillN (fun _ => 0) 259 (-1))) := by rw [eh46]; exact q_up_s _ _ _
  have hc50 : h45 (N + 3) = some (q_ai 259 (fun _ => 0)) := by rw [eh46, q_up_n _ (show (N + 3 : Nat) ≠ N + 2 by omega)]; exact hc43
  have hc51 : h45 (N + 4) = some (q_ai 43 (fun _ => 0)) := by rw [eh46, q_up_n _ (show (N + 4 : Nat) ≠ N + 2 by omega)]; exact hc44
  refine e_aload_n (pc := 47) d_tr_init_47 rfl ?_
  refine e_get (pc := 48) d_tr_init_48 fl_tr_18 hc47 rfl ?_
  refine e_iconst (pc := 51) d_tr_init_51 (v := (-1)) rfl ?_
  refine e_callS (As := [.ref (N + 3), .int (-1)]) (st := []) (cc2 := 0) (ss2 := 0) (pc := 52) d_tr_init_52 rfl cs_tr_24 (c_ar_fill htr (v := -1) (by decide) hc50) rfl (by decide) (by decide) (by omega) (by omega) (Nat.le_of_ble_eq_true rfl) (fun _ _ _ hq => nomatch hq.1) (fun r h2 N2 hq => ?_)
  obtain ⟨hr, e1, e2⟩ := hq
  cases hr
  rw [e1, e2]
  clear e1 e2
  show q_Ev l G m_tr_init 1 23 0 0 55 [some (.ref (N))] [] _ (N + 4) _
  -- filled
  obtain ⟨h52, eh53⟩ : ∃ x, x = q_up h45 (N + 3) (q_ai 259 (fillN (fun _ => 0) 259 (-1))) := ⟨_, rfl⟩
  rw [← eh53]
  have hc54 : h52 (N) = some (.inr (3, [.ref (N + 1), .ref (N + 2), .ref (N + 3), .ref (N + 4)])) := by rw [eh53, q_up_n _ (show (N : Nat) ≠ N + 3 by omega)]; exact hc47
  have hc55 : h52 (N + 1) = some (q_ai 259 (fun _ => 0)) := by rw [eh53, q_up_n _ (show (N + 1 : Nat) ≠ N + 3 by omega)]; exact hc48
  have hc56 : h52 (N + 2) = some (q_ai 259 (fillN (fun _ => 0) 259 (-1))) := by rw [eh53, q_up_n _ (show (N + 2 : Nat) ≠ N + 3 by omega)]; exact hc49
  have hc57 : h52 (N + 3) = some (q_ai 259 (fillN (fun _ => 0) 259 (-1))) := by rw [eh53]; exact q_up_s _ _ _
  have hc58 : h52 (N + 4) = some (q_ai 43 (fun _ => 0)) := by rw [eh53, q_up_n _ (show (N + 4 : Nat) ≠ N + 3 by omega)]; exact hc51
  refine e_aload_n (pc := 55) d_tr_init_55 rfl ?_
  refine e_get (pc := 56) d_tr_init_56 fl_tr_15 hc54 rfl ?_
  refine e_iconst (pc := 59) d_tr_init_59 (v := (nI (0))) rfl ?_
  refine e_iconst (pc := 60) d_tr_init_60 (v := (nI (0))) rfl ?_
  refine e_iastN (pc := 61) d_tr_init_61 hc56 (by omega) (by decide) ?_
  obtain ⟨h59, eh60⟩ : ∃ x, x = q_up h52 (N + 2) (q_ai 259 (upd (fillN (fun _ => 0) 259 (-1)) (0) ((nI (0))))) := ⟨_, rfl⟩
  rw [← eh60]
  have hc61 : h59 (N) = some (.inr (3, [.ref (N + 1), .ref (N + 2), .ref (N + 3), .ref (N + 4)])) := by rw [eh60, q_up_n _ (show (N : Nat) ≠ N + 2 by omega)]; exact hc54
  have hc62 : h59 (N + 1) = some (q_ai 259 (fun _ => 0)) := by rw [eh60, q_up_n _ (show (N + 1 : Nat) ≠ N + 2 by omega)]; exact hc55
  have hc63 : h59 (N + 2) = some (q_ai 259 (upd (fillN (fun _ => 0) 259 (-1)) (0) ((nI (0))))) := by rw [eh60]; exact q_up_s _ _ _
  have hc64 : h59 (N + 3) = some (q_ai 259 (fillN (fun _ => 0) 259 (-1))) := by rw [eh60, q_up_n _ (show (N + 3 : Nat) ≠ N + 2 by omega)]; exact hc57
  have hc65 : h59 (N + 4) = some (q_ai 43 (fun _ => 0)) := by rw [eh60, q_up_n _ (show (N + 4 : Nat) ≠ N + 2 by omega)]; exact hc58
  exact e_vret (pc := 62) d_tr_init_62 rfl (⟨rfl, rfl, ⟨hc61, hc62, hc63, hc64, hc65⟩, fun x hx => by subst_vars; simp only [q_up]; (repeat' rw [if_neg (by omega)])⟩)
set_option maxHeartbeats 4000000 in
set_option maxRecDepth 100000 in
theorem c_sv_init {l : Launch} {G : q_G} (htr : l.stackTraces = false) {h : q_H} {N : Nat} (ho : h N = some (.inr (1, [.null, .null, .int 0, .int 0, .int 0, .int 0, .int 0]))) : q_Met l G m_sv_init 2 43 6 888 [.ref (N)] h N (fun o h' N' => o = .inl none ∧ N' = N + 6 ∧ sv_At h' N (fun _ => none) 0 0 1 true false ∧ tr_At h' (N + 2) t00.1 t00.2.1 t00.2.2.1 t00.2.2.2 ∧ ∀ x, x < N → h' x = h x) := by
  refine q_Met.mk htr (by decide +kernel) rfl (List.forall_mem_cons.mpr ⟨rfl, fun _ h => nomatch h⟩) (Nat.le_of_ble_eq_true rfl) ?_
  refine e_aload_n (pc := 0) d_sv_init_0 rfl ?_
  refine e_objInit (pc := 1) d_sv_init_1 k_60 k_22 k_23 (by decide) (Nat.le_of_ble_eq_true rfl) ?_
  refine e_aload_n (pc := 4) d_sv_init_4 rfl ?_
  refine e_bipush (pc := 5) d_sv_init_5 (v := (nI (64))) rfl ?_
  refine e_newR (pc := 7) (t := 5) (n' := 64) (cc' := 5) (ss' := 824) d_sv_init_7 k_61 (by decide) (fun _ => rfl) (nI_pos (by decide)) (nI_clamp (by decide)) (by decide) (by omega) (by omega) ?_
  obtain ⟨h1, eh2⟩ : ∃ x, x = q_up h (N + 1) (q_ar 5 64 (fun _ => none)) := ⟨_, rfl⟩
  refine q_Ev.hp (h1 := h1) eh2 ?_
  have hc3 : h1 (N) = some (.inr (1, [.null, .null, .int (0), .int (0), .int (0), .int (0), .int (0)])) := by rw [eh2, q_up_n _ (show (N : Nat) ≠ N + 1 by omega)]; exact ho
  have hc4 : h1 (N + 1) = some (q_ar 5 64 (fun _ => none)) := by rw [eh2]; exact q_up_s _ _ _
  show q_Ev l G m_sv_init 2 43 5 824 10 [some (.ref (N))] [.ref (N + 1), .ref (N)] h1 (N + 1) _
  refine e_putFE (pc := 10) d_sv_init_10 (fs2 := [.ref (N + 1), .null, .int (0), .int (0), .int (0), .int (0), .int (0)]) fl_sv_11 rfl rfl hc3 (Nat.le_of_ble_eq_true rfl) (fun _ => rfl) (fun _ => rfl) rfl ?_
  obtain ⟨h5, eh6⟩ : ∃ x, x = q_up h1 (N) (.inr (1, [.ref (N + 1), .null, .int (0), .int (0), .int (0), .int (0), .int (0)])) := ⟨_, rfl⟩
  rw [← eh6]
  have hc7 : h5 (N) = some (.inr (1, [.ref (N + 1), .null, .int (0), .int (0), .int (0), .int (0), .int (0)])) := by rw [eh6]; exact q_up_s _ _ _
  have hc8 : h5 (N + 1) = some (q_ar 5 64 (fun _ => none)) := by rw [eh6, q_up_n _ (show (N + 1 : Nat) ≠ N by omega)]; exact hc4
  refine e_aload_n (pc := 13) d_sv_init_13 rfl ?_
  refine e_new (pc := 14) (cc' := 4) (ss' := 820) d_sv_init_14 nw_sv_17 (by omega) (by omega) ?_
  obtain ⟨h9, eh10⟩ : ∃ x, x = q_up h5 (N + 2) (.inr (3, [.null, .null, .null, .null])) := ⟨_, rfl⟩
  refine q_Ev.hp (h1 := h9) eh10 ?_
  have hc11 : h9 (N) = some (.inr (1, [.ref (N + 1), .null, .int (0), .int (0), .int (0), .int (0), .int (0)])) := by rw [eh10, q_up_n _ (show (N : Nat) ≠ N + 2 by omega)]; exact hc7
  have hc12 : h9 (N + 1) = some (q_ar 5 64 (fun _ => none)) := by rw [eh10, q_up_n _ (show (N + 1 : Nat) ≠ N + 2 by omega)]; exact hc8
  have hc13 : h9 (N + 2) = some (.inr (3, [.null, .null, .null, .null])) := by rw [eh10]; exact q_up_s _ _ _
  show q_Ev l G m_sv_init 2 43 4 820 17 [some (.ref (N))] [.ref (N + 2), .ref (N)] h9 (N + 2) _
  refine e_dup (pc := 17) d_sv_init_17 rfl ?_
  refine e_callI (b := N + 2) (As := []) (st := [.ref (N + 2), .ref (N)]) (cc2 := 0) (ss2 := 0) (pc := 18) d_sv_init_18 ci_sv_19 (c_tr_init htr (N := N + 2) hc13) rfl (by decide) (by decide) (by omega) (by omega) (Nat.le_of_ble_eq_true rfl) (fun _ _ _ hq => nomatch hq.1) (fun r g1 N1 hq => ?_)
  obtain ⟨hr, eN, hT, hfr⟩ := hq
  cases hr
  subst eN
  show q_Ev l G m_sv_init 2 43 0 0 21 [some (.ref (N))] [.ref (N + 2), .ref (N)] g1 (N + 6) _
  refine e_putFE (pc := 21) d_sv_init_21 (fs2 := [.ref (N + 1), .ref (N + 2), .int (0), .int (0), .int (0), .int (0), .int (0)]) fl_sv_20 rfl rfl ((hfr (N) (by omega)).trans hc11) (Nat.le_of_ble_eq_true rfl) (fun _ => rfl) (fun _ => rfl) rfl ?_
  obtain ⟨h14, eh15⟩ : ∃ x, x = q_up g1 (N) (.inr (1, [.ref (N + 1), .ref (N + 2), .int (0), .int (0), .int (0), .int (0), .int (0)])) := ⟨_, rfl⟩
  rw [← eh15]
  have hc16 : h14 (N) = some (.inr (1, [.ref (N + 1), .ref (N + 2), .int (0), .int (0), .int (0), .int (0), .int (0)])) := by rw [eh15]; exact q_up_s _ _ _
  have hc17 : h14 (N + 1) = some (q_ar 5 64 (fun _ => none)) := by rw [eh15, q_up_n _ (show (N + 1 : Nat) ≠ N by omega)]; exact ((hfr (N + 1) (by omega)).trans hc12)
  refine e_aload_n (pc := 24) d_sv_init_24 rfl ?_
  refine e_iconst (pc := 25) d_sv_init_25 (v := (nI (0))) rfl ?_
  refine e_putE (pc := 26) d_sv_init_26 (fs2 := [.ref (N + 1), .ref (N + 2), .int (nI (0)), .int (0), .int (0), .int (0), .int (0)]) fl_sv_24 hc16 (Nat.le_of_ble_eq_true rfl) (fun _ => rfl) (fun _ => rfl) rfl ?_
  obtain ⟨h18, eh19⟩ : ∃ x, x = q_up h14 (N) (.inr (1, [.ref (N + 1), .ref (N + 2), .int (nI (0)), .int (0), .int (0), .int (0), .int (0)])) := ⟨_, rfl⟩
  rw [← eh19]
  have hc20 : h18 (N) = some (.inr (1, [.ref (N + 1), .ref (N + 2), .int (nI (0)), .int (0), .int (0), .int (0), .int (0)])) := by rw [eh19]; exact q_up_s _ _ _
  have hc21 : h18 (N + 1) = some (q_ar 5 64 (fun _ => none)) := by rw [eh19, q_up_n _ (show (N + 1 : Nat) ≠ N by omega)]; exact hc17
  refine e_aload_n (pc := 29) d_sv_init_29 rfl ?_
  refine e_iconst (pc := 30) d_sv_init_30 (v := (nI (0))) rfl ?_
  refine e_putE (pc := 31) d_sv_init_31 (fs2 := [.ref (N + 1), .ref (N + 2), .int (nI (0)), .int (nI (0)), .int (0), .int (0), .int (0)]) fl_sv_28 hc20 (Nat.le_of_ble_eq_true rfl) (fun _ => rfl) (fun _ => rfl) rfl ?_
  obtain ⟨h22, eh23⟩ : ∃ x, x = q_up h18 (N) (.inr (1, [.ref (N + 1), .ref (N + 2), .int (nI (0)), .int (nI (0)), .int (0), .int (0), .int (0)])) := ⟨_, rfl⟩
  rw [← eh23]
  have hc24 : h22 (N) = some (.inr (1, [.ref (N + 1), .ref (N + 2), .int (nI (0)), .int (nI (0)), .int (0), .int (0), .int (0)])) := by rw [eh23]; exact q_up_s _ _ _
  have hc25 : h22 (N + 1) = some (q_ar 5 64 (fun _ => none)) := by rw [eh23, q_up_n _ (show (N + 1 : Nat) ≠ N by omega)]; exact hc21
  refine e_aload_n (pc := 34) d_sv_init_34 rfl ?_
  refine e_iconst (pc := 35) d_sv_init_35 (v := (nI (1))) rfl ?_
  refine e_putE (pc := 36) d_sv_init_36 (fs2 := [.ref (N + 1), .ref (N + 2), .int (nI (0)), .int (nI (0)), .int (nI (1)), .int (0), .int (0)]) fl_sv_31 hc24 (Nat.le_of_ble_eq_true rfl) (fun _ => rfl) (fun _ => rfl) rfl ?_
  obtain ⟨h26, eh27⟩ : ∃ x, x = q_up h22 (N) (.inr (1, [.ref (N + 1), .ref (N + 2), .int (nI (0)), .int (nI (0)), .int (nI (1)), .int (0), .int (0)])) := ⟨_, rfl⟩
  rw [← eh27]
  have hc28 : h26 (N) = some (.inr (1, [.ref (N + 1), .ref (N + 2), .int (nI (0)), .int (nI (0)), .int (nI (1)), .int (0), .int (0)])) := by rw [eh27]; exact q_up_s _ _ _
  have hc29 : h26 (N + 1) = some (q_ar 5 64 (fun _ => none)) := by rw [eh27, q_up_n _ (show (N + 1 : Nat) ≠ N by omega)]; exact hc25
  refine e_aload_n (pc := 39) d_sv_init_39 rfl ?_
  refine e_iconst (pc := 40) d_sv_init_40 (v := (bI (true))) rfl ?_
  refine e_putE (pc := 41) d_sv_init_41 (fs2 := [.ref (N + 1), .ref (N + 2), .int (nI (0)), .int (nI (0)), .int (nI (1)), .int (bI (true)), .int (0)]) fl_sv_34 hc28 (Nat.le_of_ble_eq_true rfl) (fun _ => bI_nar _) (fun _ => by first | rfl | (cases (true : Bool) <;> rfl)) rfl ?_
  obtain ⟨h30, eh31⟩ : ∃ x, x = q_up h26 (N) (.inr (1, [.ref (N + 1), .ref (N + 2), .int (nI (0)), .int (nI (0)), .int (nI (1)), .int (bI (true)), .int (0)])) := ⟨_, rfl⟩
  rw [← eh31]
  have hc32 : h30 (N) = some (.inr (1, [.ref (N + 1), .ref (N + 2), .int (nI (0)), .int (nI (0)), .int (nI (1)), .int (bI (true)), .int (0)])) := by rw [eh31]; exact q_up_s _ _ _
  have hc33 : h30 (N + 1) = some (q_ar 5 64 (fun _ => none)) := by rw [eh31, q_up_n _ (show (N + 1 : Nat) ≠ N by omega)]; exact hc29
  refine e_aload_n (pc := 44) d_sv_init_44 rfl ?_
  refine e_iconst (pc := 45) d_sv_init_45 (v := (bI (false))) rfl ?_
  refine e_putE (pc := 46) d_sv_init_46 (fs2 := [.ref (N + 1), .ref (N + 2), .int (nI (0)), .int (nI (0)), .int (nI (1)), .int (bI (true)), .int (bI (false))]) fl_sv_38 hc32 (Nat.le_of_ble_eq_true rfl) (fun _ => bI_nar _) (fun _ => by first | rfl | (cases (false : Bool) <;> rfl)) rfl ?_
  obtain ⟨h34, eh35⟩ : ∃ x, x = q_up h30 (N) (.inr (1, [.ref (N + 1), .ref (N + 2), .int (nI (0)), .int (nI (0)), .int (nI (1)), .int (bI (true)), .int (bI (false))])) := ⟨_, rfl⟩
  rw [← eh35]
  have hc36 : h34 (N) = some (.inr (1, [.ref (N + 1), .ref (N + 2), .int (nI (0)), .int (nI (0)), .int (nI (1)), .int (bI (true)), .int (bI (false))])) := by rw [eh35]; exact q_up_s _ _ _
  have hc37 : h34 (N + 1) = some (q_ar 5 64 (fun _ => none)) := by rw [eh35, q_up_n _ (show (N + 1 : Nat) ≠ N by omega)]; exact hc33
  exact e_vret (pc := 49) d_sv_init_49 rfl (⟨rfl, rfl, ⟨hc36, hc37⟩, hT.fr (fun x h1 h2 => by subst_vars; simp only [q_up]; (repeat' rw [if_neg (by omega)])), fun x hx => by have h9 := hfr x (by omega); subst_vars; simp only [q_up] at h9 ⊢; (repeat' rw [if_neg (by omega)] at h9); (repeat' rw [if_neg (by omega)]); exact h9⟩)
set_option maxHeartbeats 4000000 in
set_option maxRecDepth 100000 in
theorem c_ss_init {l : Launch} {G : q_G} (htr : l.stackTraces = false) {h : q_H} {N : Nat} (ho : h N = some (.inr (2, [.null, .null, .int 0, .int 0, .int 0, .int 0, .int 0, .int 0]))) : q_Met l G m_ss_init 1 14 2 267 [.ref (N)] h N (fun o h' N' => o = .inl none ∧ N' = N + 2 ∧ ss_At h' N (fun _ => 0) (fun _ => 0) 0 false false 0 (nI 0) (nI 0) ∧ ∀ x, x < N → h' x = h x) := by
  refine q_Met.mk htr (by decide +kernel) rfl (List.forall_mem_cons.mpr ⟨rfl, fun _ h => nomatch h⟩) (Nat.le_of_ble_eq_true rfl) ?_
  refine e_aload_n (pc := 0) d_ss_init_0 rfl ?_
  refine e_objInit (pc := 1) d_ss_init_1 k_98 k_22 k_23 (by decide) (Nat.le_of_ble_eq_true rfl) ?_
  refine e_aload_n (pc := 4) d_ss_init_4 rfl ?_
  refine e_sipush (pc := 5) d_ss_init_5 (v := (nI (259))) rfl ?_
  refine e_newI (pc := 8) (n' := 259) (cc' := 1) (ss' := 8) d_ss_init_8 k_55 (nI_pos (by decide)) (nI_clamp (by decide)) (by decide) (by omega) (by omega) ?_
  obtain ⟨h1, eh2⟩ : ∃ x, x = q_up h (N + 1) (q_ai 259 (fun _ => 0)) := ⟨_, rfl⟩
  refine q_Ev.hp (h1 := h1) eh2 ?_
  have hc3 : h1 (N) = some (.inr (2, [.null, .null, .int (0), .int (0), .int (0), .int (0), .int (0), .int (0)])) := by rw [eh2, q_up_n _ (show (N : Nat) ≠ N + 1 by omega)]; exact ho
  have hc4 : h1 (N + 1) = some (q_ai 259 (fun _ => 0)) := by rw [eh2]; exact q_up_s _ _ _
  show q_Ev l G m_ss_init 1 14 1 8 10 [some (.ref (N))] [.ref (N + 1), .ref (N)] h1 (N + 1) _
  refine e_putFE (pc := 10) d_ss_init_10 (fs2 := [.ref (N + 1), .null, .int (0), .int (0), .int (0), .int (0), .int (0), .int (0)]) fl_ss_9 rfl rfl hc3 (Nat.le_of_ble_eq_true rfl) (fun _ => rfl) (fun _ => rfl) rfl ?_
  obtain ⟨h5, eh6⟩ : ∃ x, x = q_up h1 (N) (.inr (2, [.ref (N + 1), .null, .int (0), .int (0), .int (0), .int (0), .int (0), .int (0)])) := ⟨_, rfl⟩
  rw [← eh6]
  have hc7 : h5 (N) = some (.inr (2, [.ref (N + 1), .null, .int (0), .int (0), .int (0), .int (0), .int (0), .int (0)])) := by rw [eh6]; exact q_up_s _ _ _
  have hc8 : h5 (N + 1) = some (q_ai 259 (fun _ => 0)) := by rw [eh6, q_up_n _ (show (N + 1 : Nat) ≠ N by omega)]; exact hc4
  refine e_aload_n (pc := 13) d_ss_init_13 rfl ?_
  refine e_bipush (pc := 14) d_ss_init_14 (v := (nI (8))) rfl ?_
  refine e_newI (pc := 16) (n' := 8) (cc' := 0) (ss' := 0) d_ss_init_16 k_55 (nI_pos (by decide)) (nI_clamp (by decide)) (by decide) (by omega) (by omega) ?_
  obtain ⟨h9, eh10⟩ : ∃ x, x = q_up h5 (N + 2) (q_ai 8 (fun _ => 0)) := ⟨_, rfl⟩
  refine q_Ev.hp (h1 := h9) eh10 ?_
  have hc11 : h9 (N) = some (.inr (2, [.ref (N + 1), .null, .int (0), .int (0), .int (0), .int (0), .int (0), .int (0)])) := by rw [eh10, q_up_n _ (show (N : Nat) ≠ N + 2 by omega)]; exact hc7
  have hc12 : h9 (N + 1) = some (q_ai 259 (fun _ => 0)) := by rw [eh10, q_up_n _ (show (N + 1 : Nat) ≠ N + 2 by omega)]; exact hc8
  have hc13 : h9 (N + 2) = some (q_ai 8 (fun _ => 0)) := by rw [eh10]; exact q_up_s _ _ _
  show q_Ev l G m_ss_init 1 14 0 0 18 [some (.ref (N))] [.ref (N + 2), .ref (N)] h9 (N + 2) _
  refine e_putFE (pc := 18) d_ss_init_18 (fs2 := [.ref (N + 1), .ref (N + 2), .int (0), .int (0), .int (0), .int (0), .int (0), .int (0)]) fl_ss_15 rfl rfl hc11 (Nat.le_of_ble_eq_true rfl) (fun _ => rfl) (fun _ => rfl) rfl ?_
  obtain ⟨h14, eh15⟩ : ∃ x, x = q_up h9 (N) (.inr (2, [.ref (N + 1), .ref (N + 2), .int (0), .int (0), .int (0), .int (0), .int (0), .int (0)])) := ⟨_, rfl⟩
  rw [← eh15]
  have hc16 : h14 (N) = some (.inr (2, [.ref (N + 1), .ref (N + 2), .int (0), .int (0), .int (0), .int (0), .int (0), .int (0)])) := by rw [eh15]; exact q_up_s _ _ _
  have hc17 : h14 (N + 1) = some (q_ai 259 (fun _ => 0)) := by rw [eh15, q_up_n _ (show (N + 1 : Nat) ≠ N by omega)]; exact hc12
  have hc18 : h14 (N + 2) = some (q_ai 8 (fun _ => 0)) := by rw [eh15, q_up_n _ (show (N + 2 : Nat) ≠ N by omega)]; exact hc13
  refine e_aload_n (pc := 21) d_ss_init_21 rfl ?_
  refine e_iconst (pc := 22) d_ss_init_22 (v := (nI (0))) rfl ?_
  refine e_putE (pc := 23) d_ss_init_23 (fs2 := [.ref (N + 1), .ref (N + 2), .int (nI (0)), .int (0), .int (0), .int (0), .int (0), .int (0)]) fl_ss_18 hc16 (Nat.le_of_ble_eq_true rfl) (fun _ => rfl) (fun _ => rfl) rfl ?_
  obtain ⟨h19, eh20⟩ : ∃ x, x = q_up h14 (N) (.inr (2, [.ref (N + 1), .ref (N + 2), .int (nI (0)), .int (0), .int (0), .int (0), .int (0), .int (0)])) := ⟨_, rfl⟩
  rw [← eh20]
  have hc21 : h19 (N) = some (.inr (2, [.ref (N + 1), .ref (N + 2), .int (nI (0)), .int (0), .int (0), .int (0), .int (0), .int (0)])) := by rw [eh20]; exact q_up_s _ _ _
  have hc22 : h19 (N + 1) = some (q_ai 259 (fun _ => 0)) := by rw [eh20, q_up_n _ (show (N + 1 : Nat) ≠ N by omega)]; exact hc17
  have hc23 : h19 (N + 2) = some (q_ai 8 (fun _ => 0)) := by rw [eh20, q_up_n _ (show (N + 2 : Nat) ≠ N by omega)]; exact hc18
  refine e_aload_n (pc := 26) d_ss_init_26 rfl ?_
  refine e_iconst (pc := 27) d_ss_init_27 (v := (bI (false))) rfl ?_
  refine e_putE (pc := 28) d_ss_init_28 (fs2 := [.ref (N + 1), .ref (N + 2), .int (nI (0)), .int (bI (false)), .int (0), .int (0), .int (0), .int (0)]) fl_ss_22 hc21 (Nat.le_of_ble_eq_true rfl) (fun _ => bI_nar _) (fun _ => by first | rfl | (cases (false : Bool) <;> rfl)) rfl ?_
  obtain ⟨h24, eh25⟩ : ∃ x, x = q_up h19 (N) (.inr (2, [.ref (N + 1), .ref (N + 2), .int (nI (0)), .int (bI (false)), .int (0), .int (0), .int (0), .int (0)])) := ⟨_, rfl⟩
  rw [← eh25]
  have hc26 : h24 (N) = some (.inr (2, [.ref (N + 1), .ref (N + 2), .int (nI (0)), .int (bI (false)), .int (0), .int (0), .int (0), .int (0)])) := by rw [eh25]; exact q_up_s _ _ _
  have hc27 : h24 (N + 1) = some (q_ai 259 (fun _ => 0)) := by rw [eh25, q_up_n _ (show (N + 1 : Nat) ≠ N by omega)]; exact hc22
  have hc28 : h24 (N + 2) = some (q_ai 8 (fun _ => 0)) := by rw [eh25, q_up_n _ (show (N + 2 : Nat) ≠ N by omega)]; exact hc23
  refine e_aload_n (pc := 31) d_ss_init_31 rfl ?_
  refine e_iconst (pc := 32) d_ss_init_32 (v := (bI (false))) rfl ?_
  refine e_putE (pc := 33) d_ss_init_33 (fs2 := [.ref (N + 1), .ref (N + 2), .int (nI (0)), .int (bI (false)), .int (bI (false)), .int (0), .int (0), .int (0)]) fl_ss_26 hc26 (Nat.le_of_ble_eq_true rfl) (fun _ => bI_nar _) (fun _ => by first | rfl | (cases (false : Bool) <;> rfl)) rfl ?_
  obtain ⟨h29, eh30⟩ : ∃ x, x = q_up h24 (N) (.inr (2, [.ref (N + 1), .ref (N + 2), .int (nI (0)), .int (bI (false)), .int (bI (false)), .int (0), .int (0), .int (0)])) := ⟨_, rfl⟩
  rw [← eh30]
  have hc31 : h29 (N) = some (.inr (2, [.ref (N + 1), .ref (N + 2), .int (nI (0)), .int (bI (false)), .int (bI (false)), .int (0), .int (0), .int (0)])) := by rw [eh30]; exact q_up_s _ _ _
  have hc32 : h29 (N + 1) = some (q_ai 259 (fun _ => 0)) := by rw [eh30, q_up_n _ (show (N + 1 : Nat) ≠ N by omega)]; exact hc27
  have hc33 : h29 (N + 2) = some (q_ai 8 (fun _ => 0)) := by rw [eh30, q_up_n _ (show (N + 2 : Nat) ≠ N by omega)]; exact hc28
  refine e_aload_n (pc := 36) d_ss_init_36 rfl ?_
  refine e_iconst (pc := 37) d_ss_init_37 (v := (nI (0))) rfl ?_
  refine e_putE (pc := 38) d_ss_init_38 (fs2 := [.ref (N + 1), .ref (N + 2), .int (nI (0)), .int (bI (false)), .int (bI (false)), .int (nI (0)), .int (0), .int (0)]) fl_ss_29 hc31 (Nat.le_of_ble_eq_true rfl) (fun _ => rfl) (fun _ => rfl) rfl ?_
  obtain ⟨h34, eh35⟩ : ∃ x, x = q_up h29 (N) (.inr (2, [.ref (N + 1), .ref (N + 2), .int (nI (0)), .int (bI (false)), .int (bI (false)), .int (nI (0)), .int (0), .int (0)])) := ⟨_, rfl⟩
  rw [← eh35]
  have hc36 : h34 (N) = some (.inr (2, [.ref (N + 1), .ref (N + 2), .int (nI (0)), .int (bI (false)), .int (bI (false)), .int (nI (0)), .int (0), .int (0)])) := by rw [eh35]; exact q_up_s _ _ _
  have hc37 : h34 (N + 1) = some (q_ai 259 (fun _ => 0)) := by rw [eh35, q_up_n _ (show (N + 1 : Nat) ≠ N by omega)]; exact hc32
  have hc38 : h34 (N + 2) = some (q_ai 8 (fun _ => 0)) := by rw [eh35, q_up_n _ (show (N + 2 : Nat) ≠ N by omega)]; exact hc33
  refine e_aload_n (pc := 41) d_ss_init_41 rfl ?_
  refine e_iconst (pc := 42) d_ss_init_42 (v := (nI (0))) rfl ?_
  refine e_putE (pc := 43) d_ss_init_43 (fs2 := [.ref (N + 1), .ref (N + 2), .int (nI (0)), .int (bI (false)), .int (bI (false)), .int (nI (0)), .int (nI (0)), .int (0)]) fl_ss_32 hc36 (Nat.le_of_ble_eq_true rfl) (fun _ => rfl) (fun _ => rfl) rfl ?_
  obtain ⟨h39, eh40⟩ : ∃ x, x = q_up h34 (N) (.inr (2, [.ref (N + 1), .ref (N + 2), .int (nI (0)), .int (bI (false)), .int (bI (false)), .int (nI (0)), .int (nI (0)), .int (0)])) := ⟨_, rfl⟩
  rw [← eh40]
  have hc41 : h39 (N) = some (.inr (2, [.ref (N + 1), .ref (N + 2), .int (nI (0)), .int (bI (false)), .int (bI (false)), .int (nI (0)), .int (nI (0)), .int (0)])) := by rw [eh40]; exact q_up_s _ _ _
  have hc42 : h39 (N + 1) = some (q_ai 259 (fun _ => 0)) := by rw [eh40, q_up_n _ (show (N + 1 : Nat) ≠ N by omega)]; exact hc37
  have hc43 : h39 (N + 2) = some (q_ai 8 (fun _ => 0)) := by rw [eh40, q_up_n _ (show (N + 2 : Nat) ≠ N by omega)]; exact hc38
  refine e_aload_n (pc := 46) d_ss_init_46 rfl ?_
  refine e_iconst (pc := 47) d_ss_init_47 (v := (nI (0))) rfl ?_
  refine e_putE (pc := 48) d_ss_init_48 (fs2 := [.ref (N + 1), .ref (N + 2), .int (nI (0)), .int (bI (false)), .int (bI (false)), .int (nI (0)), .int (nI (0)), .int (nI (0))]) fl_ss_35 hc41 (Nat.le_of_ble_eq_true rfl) (fun _ => rfl) (fun _ => rfl) rfl ?_
  obtain ⟨h44, eh45⟩ : ∃ x, x = q_up h39 (N) (.inr (2, [.ref (N + 1), .ref (N + 2), .int (nI (0)), .int (bI (false)), .int (bI (false)), .int (nI (0)), .int (nI (0)), .int (nI (0))])) := ⟨_, rfl⟩
  rw [← eh45]
  have hc46 : h44 (N) = some (.inr (2, [.ref (N + 1), .ref (N + 2), .int (nI (0)), .int (bI (false)), .int (bI (false)), .int (nI (0)), .int (nI (0)), .int (nI (0))])) := by rw [eh45]; exact q_up_s _ _ _
  have hc47 : h44 (N + 1) = some (q_ai 259 (fun _ => 0)) := by rw [eh45, q_up_n _ (show (N + 1 : Nat) ≠ N by omega)]; exact hc42
  have hc48 : h44 (N + 2) = some (q_ai 8 (fun _ => 0)) := by rw [eh45, q_up_n _ (show (N + 2 : Nat) ≠ N by omega)]; exact hc43
  exact e_vret (pc := 51) d_ss_init_51 rfl (⟨rfl, rfl, ⟨hc46, hc47, hc48⟩, fun x hx => by subst_vars; simp only [q_up]; (repeat' rw [if_neg (by omega)])⟩)
