/-! ZnodeServiceModel() -/
def M00 : mR := ((0, some 0, 1, 0), (fun _ => 0, fun _ => 0, fun _ => 0, fun _ => 0), (fun _ => 0, fun _ => 0, va_up (va_up (va_up (fun _ => 0) 0 1) 1 1) 2 1, fun _ => false, fun _ => false), (fun _ => false, fun _ => false, fun _ => 0, fun _ => 0, fun _ => 0), (fun _ => false, fun _ => false, fun _ => 0, fun _ => 0), (fun _ => false, fun _ => 0, fun _ => 0, fun _ => 0, fun _ => 0))
theorem md_of {h : q_H} {M : mR} (h42 : h 42 = some (md_ob M.1.1 M.1.2.1 M.1.2.2.1 M.1.2.2.2)) (h43 : h 43 = some (q_ai 240 (fun i => nI ((M.2.1.1) i)))) (h44 : h 44 = some (q_ai 240 (fun i => nI ((M.2.1.2.1) i)))) (h45 : h 45 = some (q_ai 240 (M.2.1.2.2.1))) (h46 : h 46 = some (q_ai 240 (M.2.1.2.2.2))) (h47 : h 47 = some (q_ai 3 (fun i => nI ((M.2.2.1.1) i)))) (h48 : h 48 = some (q_ai 3 (fun i => nI ((M.2.2.1.2.1) i)))) (h49 : h 49 = some (q_ai 3 (fun i => nI ((M.2.2.1.2.2.1) i)))) (h50 : h 50 = some (q_az 3 (fun i => bI ((M.2.2.1.2.2.2.1) i)))) (h51 : h 51 = some (q_az 3 (fun i => bI ((M.2.2.1.2.2.2.2) i)))) (h52 : h 52 = some (q_az 4 (fun i => bI ((M.2.2.2.1.1) i)))) (h53 : h 53 = some (q_az 4 (fun i => bI ((M.2.2.2.1.2.1) i)))) (h54 : h 54 = some (q_ai 4 (fun i => nI ((M.2.2.2.1.2.2.1) i)))) (h55 : h 55 = some (q_ai 4 (M.2.2.2.1.2.2.2.1))) (h56 : h 56 = some (q_ai 4 (M.2.2.2.1.2.2.2.2))) (h57 : h 57 = some (q_az 1036 (fun i => bI ((M.2.2.2.2.1.1) i)))) (h58 : h 58 = some (q_az 1036 (fun i => bI ((M.2.2.2.2.1.2.1) i)))) (h59 : h 59 = some (q_ai 32 (M.2.2.2.2.1.2.2.1))) (h60 : h 60 = some (q_ai 4 (fun i => nI ((M.2.2.2.2.1.2.2.2) i)))) (h61 : h 61 = some (q_az 259 (fun i => bI ((M.2.2.2.2.2.1) i)))) (h62 : h 62 = some (q_ai 259 (M.2.2.2.2.2.2.1))) (h63 : h 63 = some (q_ai 259 (M.2.2.2.2.2.2.2.1))) (h64 : h 64 = some (q_ai 259 (fun i => nI ((M.2.2.2.2.2.2.2.2.1) i)))) (h65 : h 65 = some (q_ai 259 (M.2.2.2.2.2.2.2.2.2))) : ∀ a, h a = md_put h M a
  | 0 => rfl
  | 1 => rfl
  | 2 => rfl
  | 3 => rfl
  | 4 => rfl
  | 5 => rfl
  | 6 => rfl
  | 7 => rfl
  | 8 => rfl
  | 9 => rfl
  | 10 => rfl
  | 11 => rfl
  | 12 => rfl
  | 13 => rfl
  | 14 => rfl
  | 15 => rfl
  | 16 => rfl
  | 17 => rfl
  | 18 => rfl
  | 19 => rfl
  | 20 => rfl
  | 21 => rfl
  | 22 => rfl
  | 23 => rfl
  | 24 => rfl
  | 25 => rfl
  | 26 => rfl
  | 27 => rfl
  | 28 => rfl
  | 29 => rfl
  | 30 => rfl
  | 31 => rfl
  | 32 => rfl
  | 33 => rfl
  | 34 => rfl
  | 35 => rfl
  | 36 => rfl
  | 37 => rfl
  | 38 => rfl
  | 39 => rfl
  | 40 => rfl
  | 41 => rfl
  | 42 => h42
  | 43 => h43
  | 44 => h44
  | 45 => h45
  | 46 => h46
  | 47 => h47
  | 48 => h48
  | 49 => h49
  | 50 => h50
  | 51 => h51
  | 52 => h52
  | 53 => h53
  | 54 => h54
  | 55 => h55
  | 56 => h56
  | 57 => h57
  | 58 => h58
  | 59 => h59
  | 60 => h60
  | 61 => h61
  | 62 => h62
  | 63 => h63
  | 64 => h64
  | 65 => h65
  | _ + 66 => rfl
set_option maxHeartbeats 4000000 in
set_option maxRecDepth 100000 in
theorem c_md_init {l : Launch} {G : q_G} (htr : l.stackTraces = false) {h : q_H} (h42 : h 42 = some (.inr (5, [.int 0, .null, .null, .null, .null, .null, .null, .null, .null, .null, .int 0, .int 0, .int 0, .null, .null, .null, .null, .null, .null, .null, .null, .null, .null, .null, .null, .null, .null]))) : q_Met l G m_md_init 1 14 23 4398 [.ref 42] h 42 (fun o h' N' => o = .inl none ∧ N' = 65 ∧ h' = md_put h' M00 ∧ ∀ a, a < 42 → h' a = h a) := by
  refine q_Met.mk htr (by decide +kernel) rfl (List.forall_mem_cons.mpr ⟨rfl, fun _ h => nomatch h⟩) (Nat.le_of_ble_eq_true rfl) ?_
  refine e_aload_n (pc := 0) d_md_init_0 rfl ?_
  refine e_objInit (pc := 1) d_md_init_1 k_621 k_22 k_23 (by decide) (Nat.le_of_ble_eq_true rfl) ?_
  refine e_aload_n (pc := 4) d_md_init_4 rfl ?_
  refine e_sipush (pc := 5) d_md_init_5 (v := (nI (240))) rfl ?_
  refine e_newI (pc := 8) (n' := 240) (cc' := 22) (ss' := 4158) d_md_init_8 k_55 (nI_pos (by decide)) (nI_clamp (by decide)) (by decide) (by omega) (by omega) ?_
  obtain ⟨h1, eh2⟩ : ∃ x, x = q_up h (43) (q_ai 240 (fun _ => 0)) := ⟨_, rfl⟩
  refine q_Ev.hp (h1 := h1) eh2 ?_
  have hc3 : h1 (42) = some (.inr (5, [.int (0), .null, .null, .null, .null, .null, .null, .null, .null, .null, .int (nI (0)), .int (nI (0)), .int (0), .null, .null, .null, .null, .null, .null, .null, .null, .null, .null, .null, .null, .null, .null])) := by rw [eh2, q_up_n _ (show (42 : Nat) ≠ 43 by omega)]; exact h42
  have hc4 : h1 (43) = some (q_ai 240 (fun _ => 0)) := by rw [eh2]; exact q_up_s _ _ _
  show q_Ev l G m_md_init 1 14 22 4158 10 [some (.ref (42)), none] [.ref (43), .ref (42)] h1 43 _
  refine e_putFE (pc := 10) d_md_init_10 (fs2 := [.int (0), .ref (43), .null, .null, .null, .null, .null, .null, .null, .null, .int (nI (0)), .int (nI (0)), .int (0), .null, .null, .null, .null, .null, .null, .null, .null, .null, .null, .null, .null, .null, .null]) fl_md_7 rfl rfl hc3 (Nat.le_of_ble_eq_true rfl) (fun _ => rfl) (fun _ => rfl) rfl ?_
  obtain ⟨h5, eh6⟩ : ∃ x, x = q_up h1 (42) (.inr (5, [.int (0), .ref (43), .null, .null, .null, .null, .null, .null, .null, .null, .int (nI (0)), .int (nI (0)), .int (0), .null, .null, .null, .null, .null, .null, .null, .null, .null, .null, .null, .null, .null, .null])) := ⟨_, rfl⟩
  rw [← eh6]
  have hc7 : h5 (42) = some (.inr (5, [.int (0), .ref (43), .null, .null, .null, .null, .null, .null, .null, .null, .int (nI (0)), .int (nI (0)), .int (0), .null, .null, .null, .null, .null, .null, .null, .null, .null, .null, .null, .null, .null, .null])) := by rw [eh6]; exact q_up_s _ _ _
  have hc8 : h5 (43) = some (q_ai 240 (fun i => nI ((fun _ => 0) i))) := by rw [eh6, q_up_n _ (show (43 : Nat) ≠ 42 by omega)]; exact hc4
  refine e_aload_n (pc := 13) d_md_init_13 rfl ?_
  refine e_sipush (pc := 14) d_md_init_14 (v := (nI (240))) rfl ?_
  refine e_newI (pc := 17) (n' := 240) (cc' := 21) (ss' := 3918) d_md_init_17 k_55 (nI_pos (by decide)) (nI_clamp (by decide)) (by decide) (by omega) (by omega) ?_
  obtain ⟨h9, eh10⟩ : ∃ x, x = q_up h5 (44) (q_ai 240 (fun _ => 0)) := ⟨_, rfl⟩
  refine q_Ev.hp (h1 := h9) eh10 ?_
  have hc11 : h9 (42) = some (.inr (5, [.int (0), .ref (43), .null, .null, .null, .null, .null, .null, .null, .null, .int (nI (0)), .int (nI (0)), .int (0), .null, .null, .null, .null, .null, .null, .null, .null, .null, .null, .null, .null, .null, .null])) := by rw [eh10, q_up_n _ (show (42 : Nat) ≠ 44 by omega)]; exact hc7
  have hc12 : h9 (43) = some (q_ai 240 (fun i => nI ((fun _ => 0) i))) := by rw [eh10, q_up_n _ (show (43 : Nat) ≠ 44 by omega)]; exact hc8
  have hc13 : h9 (44) = some (q_ai 240 (fun _ => 0)) := by rw [eh10]; exact q_up_s _ _ _
  show q_Ev l G m_md_init 1 14 21 3918 19 [some (.ref (42)), none] [.ref (44), .ref (42)] h9 44 _
  refine e_putFE (pc := 19) d_md_init_19 (fs2 := [.int (0), .ref (43), .ref (44), .null, .null, .null, .null, .null, .null, .null, .int (nI (0)), .int (nI (0)), .int (0), .null, .null, .null, .null, .null, .null, .null, .null, .null, .null, .null, .null, .null, .null]) fl_md_13 rfl rfl hc11 (Nat.le_of_ble_eq_true rfl) (fun _ => rfl) (fun _ => rfl) rfl ?_
  obtain ⟨h14, eh15⟩ : ∃ x, x = q_up h9 (42) (.inr (5, [.int (0), .ref (43), .ref (44), .null, .null, .null, .null, .null, .null, .null, .int (nI (0)), .int (nI (0)), .int (0), .null, .null, .null, .null, .null, .null, .null, .null, .null, .null, .null, .null, .null, .null])) := ⟨_, rfl⟩
  rw [← eh15]
  have hc16 : h14 (42) = some (.inr (5, [.int (0), .ref (43), .ref (44), .null, .null, .null, .null, .null, .null, .null, .int (nI (0)), .int (nI (0)), .int (0), .null, .null, .null, .null, .null, .null, .null, .null, .null, .null, .null, .null, .null, .null])) := by rw [eh15]; exact q_up_s _ _ _
  have hc17 : h14 (43) = some (q_ai 240 (fun i => nI ((fun _ => 0) i))) := by rw [eh15, q_up_n _ (show (43 : Nat) ≠ 42 by omega)]; exact hc12
  have hc18 : h14 (44) = some (q_ai 240 (fun i => nI ((fun _ => 0) i))) := by rw [eh15, q_up_n _ (show (44 : Nat) ≠ 42 by omega)]; exact hc13
  refine e_aload_n (pc := 22) d_md_init_22 rfl ?_
  refine e_sipush (pc := 23) d_md_init_23 (v := (nI (240))) rfl ?_
  refine e_newI (pc := 26) (n' := 240) (cc' := 20) (ss' := 3678) d_md_init_26 k_55 (nI_pos (by decide)) (nI_clamp (by decide)) (by decide) (by omega) (by omega) ?_
  obtain ⟨h19, eh20⟩ : ∃ x, x = q_up h14 (45) (q_ai 240 (fun _ => 0)) := ⟨_, rfl⟩
  refine q_Ev.hp (h1 := h19) eh20 ?_
  have hc21 : h19 (42) = some (.inr (5, [.int (0), .ref (43), .ref (44), .null, .null, .null, .null, .null, .null, .null, .int (nI (0)), .int (nI (0)), .int (0), .null, .null, .null, .null, .null, .null, .null, .null, .null, .null, .null, .null, .null, .null])) := by rw [eh20, q_up_n _ (show (42 : Nat) ≠ 45 by omega)]; exact hc16
  have hc22 : h19 (43) = some (q_ai 240 (fun i => nI ((fun _ => 0) i))) := by rw [eh20, q_up_n _ (show (43 : Nat) ≠ 45 by omega)]; exact hc17
  have hc23 : h19 (44) = some (q_ai 240 (fun i => nI ((fun _ => 0) i))) := by rw [eh20, q_up_n _ (show (44 : Nat) ≠ 45 by omega)]; exact hc18
  have hc24 : h19 (45) = some (q_ai 240 (fun _ => 0)) := by rw [eh20]; exact q_up_s _ _ _
  show q_Ev l G m_md_init 1 14 20 3678 28 [some (.ref (42)), none] [.ref (45), .ref (42)] h19 45 _
  refine e_putFE (pc := 28) d_md_init_28 (fs2 := [.int (0), .ref (43), .ref (44), .ref (45), .null, .null, .null, .null, .null, .null, .int (nI (0)), .int (nI (0)), .int (0), .null, .null, .null, .null, .null, .null, .null, .null, .null, .null, .null, .null, .null, .null]) fl_md_16 rfl rfl hc21 (Nat.le_of_ble_eq_true rfl) (fun _ => rfl) (fun _ => rfl) rfl ?_
  obtain ⟨h25, eh26⟩ : ∃ x, x = q_up h19 (42) (.inr (5, [.int (0), .ref (43), .ref (44), .ref (45), .null, .null, .null, .null, .null, .null, .int (nI (0)), .int (nI (0)), .int (0), .null, .null, .null, .null, .null, .null, .null, .null, .null, .null, .null, .null, .null, .null])) := ⟨_, rfl⟩
  rw [← eh26]
  have hc27 : h25 (42) = some (.inr (5, [.int (0), .ref (43), .ref (44), .ref (45), .null, .null, .null, .null, .null, .null, .int (nI (0)), .int (nI (0)), .int (0), .null, .null, .null, .null, .null, .null, .null, .null, .null, .null, .null, .null, .null, .null])) := by rw [eh26]; exact q_up_s _ _ _
  have hc28 : h25 (43) = some (q_ai 240 (fun i => nI ((fun _ => 0) i))) := by rw [eh26, q_up_n _ (show (43 : Nat) ≠ 42 by omega)]; exact hc22
  have hc29 : h25 (44) = some (q_ai 240 (fun i => nI ((fun _ => 0) i))) := by rw [eh26, q_up_n _ (show (44 : Nat) ≠ 42 by omega)]; exact hc23
  have hc30 : h25 (45) = some (q_ai 240 (fun _ => 0)) := by rw [eh26, q_up_n _ (show (45 : Nat) ≠ 42 by omega)]; exact hc24
  refine e_aload_n (pc := 31) d_md_init_31 rfl ?_
  refine e_sipush (pc := 32) d_md_init_32 (v := (nI (240))) rfl ?_
  refine e_newI (pc := 35) (n' := 240) (cc' := 19) (ss' := 3438) d_md_init_35 k_55 (nI_pos (by decide)) (nI_clamp (by decide)) (by decide) (by omega) (by omega) ?_
  obtain ⟨h31, eh32⟩ : ∃ x, x = q_up h25 (46) (q_ai 240 (fun _ => 0)) := ⟨_, rfl⟩
  refine q_Ev.hp (h1 := h31) eh32 ?_
  have hc33 : h31 (42) = some (.inr (5, [.int (0), .ref (43), .ref (44), .ref (45), .null, .null, .null, .null, .null, .null, .int (nI (0)), .int (nI (0)), .int (0), .null, .null, .null, .null, .null, .null, .null, .null, .null, .null, .null, .null, .null, .null])) := by rw [eh32, q_up_n _ (show (42 : Nat) ≠ 46 by omega)]; exact hc27
  have hc34 : h31 (43) = some (q_ai 240 (fun i => nI ((fun _ => 0) i))) := by rw [eh32, q_up_n _ (show (43 : Nat) ≠ 46 by omega)]; exact hc28
  have hc35 : h31 (44) = some (q_ai 240 (fun i => nI ((fun _ => 0) i))) := by rw [eh32, q_up_n _ (show (44 : Nat) ≠ 46 by omega)]; exact hc29
  have hc36 : h31 (45) = some (q_ai 240 (fun _ => 0)) := by rw [eh32, q_up_n _ (show (45 : Nat) ≠ 46 by omega)]; exact hc30
  have hc37 : h31 (46) = some (q_ai 240 (fun _ => 0)) := by rw [eh32]; exact q_up_s _ _ _
  show q_Ev l G m_md_init 1 14 19 3438 37 [some (.ref (42)), none] [.ref (46), .ref (42)] h31 46 _
  refine e_putFE (pc := 37) d_md_init_37 (fs2 := [.int (0), .ref (43), .ref (44), .ref (45), .ref (46), .null, .null, .null, .null, .null, .int (nI (0)), .int (nI (0)), .int (0), .null, .null, .null, .null, .null, .null, .null, .null, .null, .null, .null, .null, .null, .null]) fl_md_19 rfl rfl hc33 (Nat.le_of_ble_eq_true rfl) (fun _ => rfl) (fun _ => rfl) rfl ?_
  obtain ⟨h38, eh39⟩ : ∃ x, x = q_up h31 (42) (.inr (5, [.int (0), .ref (43), .ref (44), .ref (45), .ref (46), .null, .null, .null, .null, .null, .int (nI (0)), .int (nI (0)), .int (0), .null, .null, .null, .null, .null, .null, .null, .null, .null, .null, .null, .null, .null, .null])) := ⟨_, rfl⟩
  rw [← eh39]
  have hc40 : h38 (42) = some (.inr (5, [.int (0), .ref (43), .ref (44), .ref (45), .ref (46), .null, .null, .null, .null, .null, .int (nI (0)), .int (nI (0)), .int (0), .null, .null, .null, .null, .null, .null, .null, .null, .null, .null, .null, .null, .null, .null])) := by rw [eh39]; exact q_up_s _ _ _
  have hc41 : h38 (43) = some (q_ai 240 (fun i => nI ((fun _ => 0) i))) := by rw [eh39, q_up_n _ (show (43 : Nat) ≠ 42 by omega)]; exact hc34
  have hc42 : h38 (44) = some (q_ai 240 (fun i => nI ((fun _ => 0) i))) := by rw [eh39, q_up_n _ (show (44 : Nat) ≠ 42 by omega)]; exact hc35
  have hc43 : h38 (45) = some (q_ai 240 (fun _ => 0)) := by rw [eh39, q_up_n _ (show (45 : Nat) ≠ 42 by omega)]; exact hc36
  have hc44 : h38 (46) = some (q_ai 240 (fun _ => 0)) := by rw [eh39, q_up_n _ (show (46 : Nat) ≠ 42 by omega)]; exact hc37
  refine e_aload_n (pc := 40) d_md_init_40 rfl ?_
  refine e_iconst (pc := 41) d_md_init_41 (v := (nI (3))) rfl ?_
  refine e_newI (pc := 42) (n' := 3) (cc' := 18) (ss' := 3435) d_md_init_42 k_55 (nI_pos (by decide)) (nI_clamp (by decide)) (by decide) (by omega) (by omega) ?_
  obtain ⟨h45, eh46⟩ : ∃ x, x = q_up h38 (47) (q_ai 3 (fun _ => 0)) := ⟨_, rfl⟩
  refine q_Ev.hp (h1 := h45) eh46 ?_
  have hc47 : h45 (42) = some (.inr (5, [.int (0), .ref (43), .ref (44), .ref (45), .ref (46), .null, .null, .null, .null, .null, .int (nI (0)), .int (nI (0)), .int (0), .null, .null, .null, .null, .null, .null, .null, .null, .null, .null, .null, .null, .null, .null])) := by rw [eh46, q_up_n _ (show (42 : Nat) ≠ 47 by omega)]; exact hc40
  have hc48 : h45 (43) = some (q_ai 240 (fun i => nI ((fun _ => 0) i))) := by rw [eh46, q_up_n _ (show (43 : Nat) ≠ 47 by omega)]; exact hc41
  have hc49 : h45 (44) = some (q_ai 240 (fun i => nI ((fun _ => 0) i))) := by rw [eh46, q_up_n _ (show (44 : Nat) ≠ 47 by omega)]; exact hc42
  have hc50 : h45 (45) = some (q_ai 240 (fun _ => 0)) := by rw [eh46, q_up_n _ (show (45 : Nat) ≠ 47 by omega)]; exact hc43
  have hc51 : h45 (46) = some (q_ai 240 (fun _ => 0)) := by rw [eh46, q_up_n _ (show (46 : Nat) ≠ 47 by omega)]; exact hc44
  have hc52 : h45 (47) = some (q_ai 3 (fun _ => 0)) := by rw [eh46]; exact q_up_s _ _ _
  show q_Ev l G m_md_init 1 14 18 3435 44 [some (.ref (42)), none] [.ref (47), .ref (42)] h45 47 _
  refine e_putFE (pc := 44) d_md_init_44 (fs2 := [.int (0), .ref (43), .ref (44), .ref (45), .ref (46), .ref (47), .null, .null, .null, .null, .int (nI (0)), .int (nI (0)), .int (0), .null, .null, .null, .null, .null, .null, .null, .null, .null, .null, .null, .null, .null, .null]) fl_md_22 rfl rfl hc47 (Nat.le_of_ble_eq_true rfl) (fun _ => rfl) (fun _ => rfl) rfl ?_
  obtain ⟨h53, eh54⟩ : ∃ x, x = q_up h45 (42) (.inr (5, [.int (0), .ref (43), .ref (44), .ref (45), .ref (46), .ref (47), .null, .null, .null, .null, .int (nI (0)), .int (nI (0)), .int (0), .null, .null, .null, .null, .null, .null, .null, .null, .null, .null, .null, .null, .null, .null])) := ⟨_, rfl⟩
  rw [← eh54]
  have hc55 : h53 (42) = some (.inr (5, [.int (0), .ref (43), .ref (44), .ref (45), .ref (46), .ref (47), .null, .null, .null, .null, .int (nI (0)), .int (nI (0)), .int (0), .null, .null, .null, .null, .null, .null, .null, .null, .null, .null, .null, .null, .null, .null])) := by rw [eh54]; exact q_up_s _ _ _
  have hc56 : h53 (43) = some (q_ai 240 (fun i => nI ((fun _ => 0) i))) := by rw [eh54, q_up_n _ (show (43 : Nat) ≠ 42 by omega)]; exact hc48
  have hc57 : h53 (44) = some (q_ai 240 (fun i => nI ((fun _ => 0) i))) := by rw [eh54, q_up_n _ (show (44 : Nat) ≠ 42 by omega)]; exact hc49
  have hc58 : h53 (45) = some (q_ai 240 (fun _ => 0)) := by rw [eh54, q_up_n _ (show (45 : Nat) ≠ 42 by omega)]; exact hc50
  have hc59 : h53 (46) = some (q_ai 240 (fun _ => 0)) := by rw [eh54, q_up_n _ (show (46 : Nat) ≠ 42 by omega)]; exact hc51
  have hc60 : h53 (47) = some (q_ai 3 (fun i => nI ((fun _ => 0) i))) := by rw [eh54, q_up_n _ (show (47 : Nat) ≠ 42 by omega)]; exact hc52
  refine e_aload_n (pc := 47) d_md_init_47 rfl ?_
  refine e_iconst (pc := 48) d_md_init_48 (v := (nI (3))) rfl ?_
  refine e_newI (pc := 49) (n' := 3) (cc' := 17) (ss' := 3432) d_md_init_49 k_55 (nI_pos (by decide)) (nI_clamp (by decide)) (by decide) (by omega) (by omega) ?_
  obtain ⟨h61, eh62⟩ : ∃ x, x = q_up h53 (48) (q_ai 3 (fun _ => 0)) := ⟨_, rfl⟩
  refine q_Ev.hp (h1 := h61) eh62 ?_
  have hc63 : h61 (42) = some (.inr (5, [.int (0), .ref (43), .ref (44), .ref (45), .ref (46), .ref (47), .null, .null, .null, .null, .int (nI (0)), .int (nI (0)), .int (0), .null, .null, .null, .null, .null, .null, .null, .null, .null, .null, .null, .null, .null, .null])) := by rw [eh62, q_up_n _ (show (42 : Nat) ≠ 48 by omega)]; exact hc55
  have hc64 : h61 (43) = some (q_ai 240 (fun i => nI ((fun _ => 0) i))) := by rw [eh62, q_up_n _ (show (43 : Nat) ≠ 48 by omega)]; exact hc56
  have hc65 : h61 (44) = some (q_ai 240 (fun i => nI ((fun _ => 0) i))) := by rw [eh62, q_up_n _ (show (44 : Nat) ≠ 48 by omega)]; exact hc57
  have hc66 : h61 (45) = some (q_ai 240 (fun _ => 0)) := by rw [eh62, q_up_n _ (show (45 : Nat) ≠ 48 by omega)]; exact hc58
  have hc67 : h61 (46) = some (q_ai 240 (fun _ => 0)) := by rw [eh62, q_up_n _ (show (46 : Nat) ≠ 48 by omega)]; exact hc59
  have hc68 : h61 (47) = some (q_ai 3 (fun i => nI ((fun _ => 0) i))) := by rw [eh62, q_up_n _ (show (47 : Nat) ≠ 48 by omega)]; exact hc60
  have hc69 : h61 (48) = some (q_ai 3 (fun _ => 0)) := by rw [eh62]; exact q_up_s _ _ _
  show q_Ev l G m_md_init 1 14 17 3432 51 [some (.ref (42)), none] [.ref (48), .ref (42)] h61 48 _
  refine e_putFE (pc := 51) d_md_init_51 (fs2 := [.int (0), .ref (43), .ref (44), .ref (45), .ref (46), .ref (47), .ref (48), .null, .null, .null, .int (nI (0)), .int (nI (0)), .int (0), .null, .null, .null, .null, .null, .null, .null, .null, .null, .null, .null, .null, .null, .null]) fl_md_25 rfl rfl hc63 (Nat.le_of_ble_eq_true rfl) (fun _ => rfl) (fun _ => rfl) rfl ?_
  obtain ⟨h70, eh71⟩ : ∃ x, x = q_up h61 (42) (.inr (5, [.int (0), .ref (43), .ref (44), .ref (45), .ref (46), .ref (47), .ref (48), .null, .null, .null, .int (nI (0)), .int (nI (0)), .int (0), .null, .null, .null, .null, .null, .null, .null, .null, .null, .null, .null, .null, .null, .null])) := ⟨_, rfl⟩
  rw [← eh71]
  have hc72 : h70 (42) = some (.inr (5, [.int (0), .ref (43), .ref (44), .ref (45), .ref (46), .ref (47), .ref (48), .null, .null, .null, .int (nI (0)), .int (nI (0)), .int (0), .null, .null, .null, .null, .null, .null, .null, .null, .null, .null, .null, .null, .null, .null])) := by rw [eh71]; exact q_up_s _ _ _
  have hc73 : h70 (43) = some (q_ai 240 (fun i => nI ((fun _ => 0) i))) := by rw [eh71, q_up_n _ (show (43 : Nat) ≠ 42 by omega)]; exact hc64
  have hc74 : h70 (44) = some (q_ai 240 (fun i => nI ((fun _ => 0) i))) := by rw [eh71, q_up_n _ (show (44 : Nat) ≠ 42 by omega)]; exact hc65
  have hc75 : h70 (45) = some (q_ai 240 (fun _ => 0)) := by rw [eh71, q_up_n _ (show (45 : Nat) ≠ 42 by omega)]; exact hc66
  have hc76 : h70 (46) = some (q_ai 240 (fun _ => 0)) := by rw [eh71, q_up_n _ (show (46 : Nat) ≠ 42 by omega)]; exact hc67
  have hc77 : h70 (47) = some (q_ai 3 (fun i => nI ((fun _ => 0) i))) := by rw [eh71, q_up_n _ (show (47 : Nat) ≠ 42 by omega)]; exact hc68
  have hc78 : h70 (48) = some (q_ai 3 (fun i => nI ((fun _ => 0) i))) := by rw [eh71, q_up_n _ (show (48 : Nat) ≠ 42 by omega)]; exact hc69
  refine e_aload_n (pc := 54) d_md_init_54 rfl ?_
  refine e_iconst (pc := 55) d_md_init_55 (v := (nI (3))) rfl ?_
  refine e_newI (pc := 56) (n' := 3) (cc' := 16) (ss' := 3429) d_md_init_56 k_55 (nI_pos (by decide)) (nI_clamp (by decide)) (by decide) (by omega) (by omega) ?_
  obtain ⟨h79, eh80⟩ : ∃ x, x = q_up h70 (49) (q_ai 3 (fun _ => 0)) := ⟨_, rfl⟩
  refine q_Ev.hp (h1 := h79) eh80 ?_
  have hc81 : h79 (42) = some (.inr (5, [.int (0), .ref (43), .ref (44), .ref (45), .ref (46), .ref (47), .ref (48), .null, .null, .null, .int (nI (0)), .int (nI (0)), .int (0), .null, .null, .null, .null, .null, .null, .null, .null, .null, .null, .null, .null, .null, .null])) := by rw [eh80, q_up_n _ (show (42 : Nat) ≠ 49 by omega)]; exact hc72
  have hc82 : h79 (43) = some (q_ai 240 (fun i => nI ((fun _ => 0) i))) := by rw [eh80, q_up_n _ (show (43 : Nat) ≠ 49 by omega)]; exact hc73
  have hc83 : h79 (44) = some (q_ai 240 (fun i => nI ((fun _ => 0) i))) := by rw [eh80, q_up_n _ (show (44 : Nat) ≠ 49 by omega)]; exact hc74
  have hc84 : h79 (45) = some (q_ai 240 (fun _ => 0)) := by rw [eh80, q_up_n _ (show (45 : Nat) ≠ 49 by omega)]; exact hc75
  have hc85 : h79 (46) = some (q_ai 240 (fun _ => 0)) := by rw [eh80, q_up_n _ (show (46 : Nat) ≠ 49 by omega)]; exact hc76
  have hc86 : h79 (47) = some (q_ai 3 (fun i => nI ((fun _ => 0) i))) := by rw [eh80, q_up_n _ (show (47 : Nat) ≠ 49 by omega)]; exact hc77
  have hc87 : h79 (48) = some (q_ai 3 (fun i => nI ((fun _ => 0) i))) := by rw [eh80, q_up_n _ (show (48 : Nat) ≠ 49 by omega)]; exact hc78
  have hc88 : h79 (49) = some (q_ai 3 (fun _ => 0)) := by rw [eh80]; exact q_up_s _ _ _
  show q_Ev l G m_md_init 1 14 16 3429 58 [some (.ref (42)), none] [.ref (49), .ref (42)] h79 49 _
  refine e_putFE (pc := 58) d_md_init_58 (fs2 := [.int (0), .ref (43), .ref (44), .ref (45), .ref (46), .ref (47), .ref (48), .ref (49), .null, .null, .int (nI (0)), .int (nI (0)), .int (0), .null, .null, .null, .null, .null, .null, .null, .null, .null, .null, .null, .null, .null, .null]) fl_md_28 rfl rfl hc81 (Nat.le_of_ble_eq_true rfl) (fun _ => rfl) (fun _ => rfl) rfl ?_
  obtain ⟨h89, eh90⟩ : ∃ x, x = q_up h79 (42) (.inr (5, [.int (0), .ref (43), .ref (44), .ref (45), .ref (46), .ref (47), .ref (48), .ref (49), .null, .null, .int (nI (0)), .int (nI (0)), .int (0), .null, .null, .null, .null, .null, .null, .null, .null, .null, .null, .null, .null, .null, .null])) := ⟨_, rfl⟩
  rw [← eh90]
  have hc91 : h89 (42) = some (.inr (5, [.int (0), .ref (43), .ref (44), .ref (45), .ref (46), .ref (47), .ref (48), .ref (49), .null, .null, .int (nI (0)), .int (nI (0)), .int (0), .null, .null, .null, .null, .null, .null, .null, .null, .null, .null, .null, .null, .null, .null])) := by rw [eh90]; exact q_up_s _ _ _
  have hc92 : h89 (43) = some (q_ai 240 (fun i => nI ((fun _ => 0) i))) := by rw [eh90, q_up_n _ (show (43 : Nat) ≠ 42 by omega)]; exact hc82
  have hc93 : h89 (44) = some (q_ai 240 (fun i => nI ((fun _ => 0) i))) := by rw [eh90, q_up_n _ (show (44 : Nat) ≠ 42 by omega)]; exact hc83
  have hc94 : h89 (45) = some (q_ai 240 (fun _ => 0)) := by rw [eh90, q_up_n _ (show (45 : Nat) ≠ 42 by omega)]; exact hc84
  have hc95 : h89 (46) = some (q_ai 240 (fun _ => 0)) := by rw [eh90, q_up_n _ (show (46 : Nat) ≠ 42 by omega)]; exact hc85
  have hc96 : h89 (47) = some (q_ai 3 (fun i => nI ((fun _ => 0) i))) := by rw [eh90, q_up_n _ (show (47 : Nat) ≠ 42 by omega)]; exact hc86
  have hc97 : h89 (48) = some (q_ai 3 (fun i => nI ((fun _ => 0) i))) := by rw [eh90, q_up_n _ (show (48 : Nat) ≠ 42 by omega)]; exact hc87
  have hc98 : h89 (49) = some (q_ai 3 (fun i => nI ((fun _ => 0) i))) := by rw [eh90, q_up_n _ (show (49 : Nat) ≠ 42 by omega)]; exact hc88
  refine e_aload_n (pc := 61) d_md_init_61 rfl ?_
  refine e_iconst (pc := 62) d_md_init_62 (v := (nI (3))) rfl ?_
  refine e_newZ (pc := 63) (n' := 3) (cc' := 15) (ss' := 3426) d_md_init_63 k_704 (nI_pos (by decide)) (nI_clamp (by decide)) (by decide) (by omega) (by omega) ?_
  obtain ⟨h99, eh100⟩ : ∃ x, x = q_up h89 (50) (q_az 3 (fun i => bI ((fun _ => false) i))) := ⟨_, rfl⟩
  refine q_Ev.hp (h1 := h99) eh100 ?_
  have hc101 : h99 (42) = some (.inr (5, [.int (0), .ref (43), .ref (44), .ref (45), .ref (46), .ref (47), .ref (48), .ref (49), .null, .null, .int (nI (0)), .int (nI (0)), .int (0), .null, .null, .null, .null, .null, .null, .null, .null, .null, .null, .null, .null, .null, .null])) := by rw [eh100, q_up_n _ (show (42 : Nat) ≠ 50 by omega)]; exact hc91
  have hc102 : h99 (43) = some (q_ai 240 (fun i => nI ((fun _ => 0) i))) := by rw [eh100, q_up_n _ (show (43 : Nat) ≠ 50 by omega)]; exact hc92
  have hc103 : h99 (44) = some (q_ai 240 (fun i => nI ((fun _ => 0) i))) := by rw [eh100, q_up_n _ (show (44 : Nat) ≠ 50 by omega)]; exact hc93
  have hc104 : h99 (45) = some (q_ai 240 (fun _ => 0)) := by rw [eh100, q_up_n _ (show (45 : Nat) ≠ 50 by omega)]; exact hc94
  have hc105 : h99 (46) = some (q_ai 240 (fun _ => 0)) := by rw [eh100, q_up_n _ (show (46 : Nat) ≠ 50 by omega)]; exact hc95
  have hc106 : h99 (47) = some (q_ai 3 (fun i => nI ((fun _ => 0) i))) := by rw [eh100, q_up_n _ (show (47 : Nat) ≠ 50 by omega)]; exact hc96
  have hc107 : h99 (48) = some (q_ai 3 (fun i => nI ((fun _ => 0) i))) := by rw [eh100, q_up_n _ (show (48 : Nat) ≠ 50 by omega)]; exact hc97
  have hc108 : h99 (49) = some (q_ai 3 (fun i => nI ((fun _ => 0) i))) := by rw [eh100, q_up_n _ (show (49 : Nat) ≠ 50 by omega)]; exact hc98
  have hc109 : h99 (50) = some (q_az 3 (fun i => bI ((fun _ => false) i))) := by rw [eh100]; exact q_up_s _ _ _
  show q_Ev l G m_md_init 1 14 15 3426 65 [some (.ref (42)), none] [.ref (50), .ref (42)] h99 50 _
  refine e_putFE (pc := 65) d_md_init_65 (fs2 := [.int (0), .ref (43), .ref (44), .ref (45), .ref (46), .ref (47), .ref (48), .ref (49), .ref (50), .null, .int (nI (0)), .int (nI (0)), .int (0), .null, .null, .null, .null, .null, .null, .null, .null, .null, .null, .null, .null, .null, .null]) fl_md_31 rfl rfl hc101 (Nat.le_of_ble_eq_true rfl) (fun _ => rfl) (fun _ => rfl) rfl ?_
  obtain ⟨h110, eh111⟩ : ∃ x, x = q_up h99 (42) (.inr (5, [.int (0), .ref (43), .ref (44), .ref (45), .ref (46), .ref (47), .ref (48), .ref (49), .ref (50), .null, .int (nI (0)), .int (nI (0)), .int (0), .null, .null, .null, .null, .null, .null, .null, .null, .null, .null, .null, .null, .null, .null])) := ⟨_, rfl⟩
  rw [← eh111]
  have hc112 : h110 (42) = some (.inr (5, [.int (0), .ref (43), .ref (44), .ref (45), .ref (46), .ref (47), .ref (48), .ref (49), .ref (50), .null, .int (nI (0)), .int (nI (0)), .int (0), .null, .null, .null, .null, .null, .null, .null, .null, .null, .null, .null, .null, .null, .null])) := by rw [eh111]; exact q_up_s _ _ _
  have hc113 : h110 (43) = some (q_ai 240 (fun i => nI ((fun _ => 0) i))) := by rw [eh111, q_up_n _ (show (43 : Nat) ≠ 42 by omega)]; exact hc102
  have hc114 : h110 (44) = some (q_ai 240 (fun i => nI ((fun _ => 0) i))) := by rw [eh111, q_up_n _ (show (44 : Nat) ≠ 42 by omega)]; exact hc103
  have hc115 : h110 (45) = some (q_ai 240 (fun _ => 0)) := by rw [eh111, q_up_n _ (show (45 : Nat) ≠ 42 by omega)]; exact hc104
  have hc116 : h110 (46) = some (q_ai 240 (fun _ => 0)) := by rw [eh111, q_up_n _ (show (46 : Nat) ≠ 42 by omega)]; exact hc105
  have hc117 : h110 (47) = some (q_ai 3 (fun i => nI ((fun _ => 0) i))) := by rw [eh111, q_up_n _ (show (47 : Nat) ≠ 42 by omega)]; exact hc106
  have hc118 : h110 (48) = some (q_ai 3 (fun i => nI ((fun _ => 0) i))) := by rw [eh111, q_up_n _ (show (48 : Nat) ≠ 42 by omega)]; exact hc107
  have hc119 : h110 (49) = some (q_ai 3 (fun i => nI ((fun _ => 0) i))) := by rw [eh111, q_up_n _ (show (49 : Nat) ≠ 42 by omega)]; exact hc108
  have hc120 : h110 (50) = some (q_az 3 (fun i => bI ((fun _ => false) i))) := by rw [eh111, q_up_n _ (show (50 : Nat) ≠ 42 by omega)]; exact hc109
  refine e_aload_n (pc := 68) d_md_init_68 rfl ?_
  refine e_iconst (pc := 69) d_md_init_69 (v := (nI (3))) rfl ?_
  refine e_newZ (pc := 70) (n' := 3) (cc' := 14) (ss' := 3423) d_md_init_70 k_704 (nI_pos (by decide)) (nI_clamp (by decide)) (by decide) (by omega) (by omega) ?_
  obtain ⟨h121, eh122⟩ : ∃ x, x = q_up h110 (51) (q_az 3 (fun i => bI ((fun _ => false) i))) := ⟨_, rfl⟩
  refine q_Ev.hp (h1 := h121) eh122 ?_
  have hc123 : h121 (42) = some (.inr (5, [.int (0), .ref (43), .ref (44), .ref (45), .ref (46), .ref (47), .ref (48), .ref (49), .ref (50), .null, .int (nI (0)), .int (nI (0)), .int (0), .null, .null, .null, .null, .null, .null, .null, .null, .null, .null, .null, .null, .null, .null])) := by rw [eh122, q_up_n _ (show (42 : Nat) ≠ 51 by omega)]; exact hc112
  have hc124 : h121 (43) = some (q_ai 240 (fun i => nI ((fun _ => 0) i))) := by rw [eh122, q_up_n _ (show (43 : Nat) ≠ 51 by omega)]; exact hc113
  have hc125 : h121 (44) = some (q_ai 240 (fun i => nI ((fun _ => 0) i))) := by rw [eh122, q_up_n _ (show (44 : Nat) ≠ 51 by omega)]; exact hc114
  have hc126 : h121 (45) = some (q_ai 240 (fun _ => 0)) := by rw [eh122, q_up_n _ (show (45 : Nat) ≠ 51 by omega)]; exact hc115
  have hc127 : h121 (46) = some (q_ai 240 (fun _ => 0)) := by rw [eh122, q_up_n _ (show (46 : Nat) ≠ 51 by omega)]; exact hc116
  have hc128 : h121 (47) = some (q_ai 3 (fun i => nI ((fun _ => 0) i))) := by rw [eh122, q_up_n _ (show (47 : Nat) ≠ 51 by omega)]; exact hc117
  have hc129 : h121 (48) = some (q_ai 3 (fun i => nI ((fun _ => 0) i))) := by rw [eh122, q_up_n _ (show (48 : Nat) ≠ 51 by omega)]; exact hc118
  have hc130 : h121 (49) = some (q_ai 3 (fun i => nI ((fun _ => 0) i))) := by rw [eh122, q_up_n _ (show (49 : Nat) ≠ 51 by omega)]; exact hc119
  have hc131 : h121 (50) = some (q_az 3 (fun i => bI ((fun _ => false) i))) := by rw [eh122, q_up_n _ (show (50 : Nat) ≠ 51 by omega)]; exact hc120
  have hc132 : h121 (51) = some (q_az 3 (fun i => bI ((fun _ => false) i))) := by rw [eh122]; exact q_up_s _ _ _
  show q_Ev l G m_md_init 1 14 14 3423 72 [some (.ref (42)), none] [.ref (51), .ref (42)] h121 51 _
  refine e_putFE (pc := 72) d_md_init_72 (fs2 := [.int (0), .ref (43), .ref (44), .ref (45), .ref (46), .ref (47), .ref (48), .ref (49), .ref (50), .ref (51), .int (nI (0)), .int (nI (0)), .int (0), .null, .null, .null, .null, .null, .null, .null, .null, .null, .null, .null, .null, .null, .null]) fl_md_35 rfl rfl hc123 (Nat.le_of_ble_eq_true rfl) (fun _ => rfl) (fun _ => rfl) rfl ?_
  obtain ⟨h133, eh134⟩ : ∃ x, x = q_up h121 (42) (.inr (5, [.int (0), .ref (43), .ref (44), .ref (45), .ref (46), .ref (47), .ref (48), .ref (49), .ref (50), .ref (51), .int (nI (0)), .int (nI (0)), .int (0), .null, .null, .null, .null, .null, .null, .null, .null, .null, .null, .null, .null, .null, .null])) := ⟨_, rfl⟩
  rw [← eh134]
  have hc135 : h133 (42) = some (.inr (5, [.int (0), .ref (43), .ref (44), .ref (45), .ref (46), .ref (47), .ref (48), .ref (49), .ref (50), .ref (51), .int (nI (0)), .int (nI (0)), .int (0), .null, .null, .null, .null, .null, .null, .null, .null, .null, .null, .null, .null, .null, .null])) := by rw [eh134]; exact q_up_s _ _ _
  have hc136 : h133 (43) = some (q_ai 240 (fun i => nI ((fun _ => 0) i))) := by rw [eh134, q_up_n _ (show (43 : Nat) ≠ 42 by omega)]; exact hc124
  have hc137 : h133 (44) = some (q_ai 240 (fun i => nI ((fun _ => 0) i))) := by rw [eh134, q_up_n _ (show (44 : Nat) ≠ 42 by omega)]; exact hc125
  have hc138 : h133 (45) = some (q_ai 240 (fun _ => 0)) := by rw [eh134, q_up_n _ (show (45 : Nat) ≠ 42 by omega)]; exact hc126
  have hc139 : h133 (46) = some (q_ai 240 (fun _ => 0)) := by rw [eh134, q_up_n _ (show (46 : Nat) ≠ 42 by omega)]; exact hc127
  have hc140 : h133 (47) = some (q_ai 3 (fun i => nI ((fun _ => 0) i))) := by rw [eh134, q_up_n _ (show (47 : Nat) ≠ 42 by omega)]; exact hc128
  have hc141 : h133 (48) = some (q_ai 3 (fun i => nI ((fun _ => 0) i))) := by rw [eh134, q_up_n _ (show (48 : Nat) ≠ 42 by omega)]; exact hc129
  have hc142 : h133 (49) = some (q_ai 3 (fun i => nI ((fun _ => 0) i))) := by rw [eh134, q_up_n _ (show (49 : Nat) ≠ 42 by omega)]; exact hc130
  have hc143 : h133 (50) = some (q_az 3 (fun i => bI ((fun _ => false) i))) := by rw [eh134, q_up_n _ (show (50 : Nat) ≠ 42 by omega)]; exact hc131
  have hc144 : h133 (51) = some (q_az 3 (fun i => bI ((fun _ => false) i))) := by rw [eh134, q_up_n _ (show (51 : Nat) ≠ 42 by omega)]; exact hc132
  refine e_aload_n (pc := 75) d_md_init_75 rfl ?_
  refine e_iconst (pc := 76) d_md_init_76 (v := (nI (1))) rfl ?_
  refine e_putE (pc := 77) d_md_init_77 (fs2 := [.int (0), .ref (43), .ref (44), .ref (45), .ref (46), .ref (47), .ref (48), .ref (49), .ref (50), .ref (51), .int (nI (0)), .int (nI (1)), .int (0), .null, .null, .null, .null, .null, .null, .null, .null, .null, .null, .null, .null, .null, .null]) fl_md_38 hc135 (Nat.le_of_ble_eq_true rfl) (fun _ => rfl) (fun _ => rfl) rfl ?_
  obtain ⟨h145, eh146⟩ : ∃ x, x = q_up h133 (42) (.inr (5, [.int (0), .ref (43), .ref (44), .ref (45), .ref (46), .ref (47), .ref (48), .ref (49), .ref (50), .ref (51), .int (nI (0)), .int (nI (1)), .int (0), .null, .null, .null, .null, .null, .null, .null, .null, .null, .null, .null, .null, .null, .null])) := ⟨_, rfl⟩
  rw [← eh146]
  have hc147 : h145 (42) = some (.inr (5, [.int (0), .ref (43), .ref (44), .ref (45), .ref (46), .ref (47), .ref (48), .ref (49), .ref (50), .ref (51), .int (nI (0)), .int (nI (1)), .int (0), .null, .null, .null, .null, .null, .null, .null, .null, .null, .null, .null, .null, .null, .null])) := by rw [eh146]; exact q_up_s _ _ _
  have hc148 : h145 (43) = some (q_ai 240 (fun i => nI ((fun _ => 0) i))) := by rw [eh146, q_up_n _ (show (43 : Nat) ≠ 42 by omega)]; exact hc136
  have hc149 : h145 (44) = some (q_ai 240 (fun i => nI ((fun _ => 0) i))) := by rw [eh146, q_up_n _ (show (44 : Nat) ≠ 42 by omega)]; exact hc137
  have hc150 : h145 (45) = some (q_ai 240 (fun _ => 0)) := by rw [eh146, q_up_n _ (show (45 : Nat) ≠ 42 by omega)]; exact hc138
  have hc151 : h145 (46) = some (q_ai 240 (fun _ => 0)) := by rw [eh146, q_up_n _ (show (46 : Nat) ≠ 42 by omega)]; exact hc139
  have hc152 : h145 (47) = some (q_ai 3 (fun i => nI ((fun _ => 0) i))) := by rw [eh146, q_up_n _ (show (47 : Nat) ≠ 42 by omega)]; exact hc140
  have hc153 : h145 (48) = some (q_ai 3 (fun i => nI ((fun _ => 0) i))) := by rw [eh146, q_up_n _ (show (48 : Nat) ≠ 42 by omega)]; exact hc141
  have hc154 : h145 (49) = some (q_ai 3 (fun i => nI ((fun _ => 0) i))) := by rw [eh146, q_up_n _ (show (49 : Nat) ≠ 42 by omega)]; exact hc142
  have hc155 : h145 (50) = some (q_az 3 (fun i => bI ((fun _ => false) i))) := by rw [eh146, q_up_n _ (show (50 : Nat) ≠ 42 by omega)]; exact hc143
  have hc156 : h145 (51) = some (q_az 3 (fun i => bI ((fun _ => false) i))) := by rw [eh146, q_up_n _ (show (51 : Nat) ≠ 42 by omega)]; exact hc144
  refine e_aload_n (pc := 80) d_md_init_80 rfl ?_
  refine e_iconst (pc := 81) d_md_init_81 (v := (nI (4))) rfl ?_
  refine e_newZ (pc := 82) (n' := 4) (cc' := 13) (ss' := 3419) d_md_init_82 k_704 (nI_pos (by decide)) (nI_clamp (by decide)) (by decide) (by omega) (by omega) ?_
  obtain ⟨h157, eh158⟩ : ∃ x, x = q_up h145 (52) (q_az 4 (fun i => bI ((fun _ => false) i))) := ⟨_, rfl⟩
  refine q_Ev.hp (h1 := h157) eh158 ?_
  have hc159 : h157 (42) = some (.inr (5, [.int (0), .ref (43), .ref (44), .ref (45), .ref (46), .ref (47), .ref (48), .ref (49), .ref (50), .ref (51), .int (nI (0)), .int (nI (1)), .int (0), .null, .null, .null, .null, .null, .null, .null, .null, .null, .null, .null, .null, .null, .null])) := by rw [eh158, q_up_n _ (show (42 : Nat) ≠ 52 by omega)]; exact hc147
  have hc160 : h157 (43) = some (q_ai 240 (fun i => nI ((fun _ => 0) i))) := by rw [eh158, q_up_n _ (show (43 : Nat) ≠ 52 by omega)]; exact hc148
  have hc161 : h157 (44) = some (q_ai 240 (fun i => nI ((fun _ => 0) i))) := by rw [eh158, q_up_n _ (show (44 : Nat) ≠ 52 by omega)]; exact hc149
  have hc162 : h157 (45) = some (q_ai 240 (fun _ => 0)) := by rw [eh158, q_up_n _ (show (45 : Nat) ≠ 52 by omega)]; exact hc150
  have hc163 : h157 (46) = some (q_ai 240 (fun _ => 0)) := by rw [eh158, q_up_n _ (show (46 : Nat) ≠ 52 by omega)]; exact hc151
  have hc164 : h157 (47) = some (q_ai 3 (fun i => nI ((fun _ => 0) i))) := by rw [eh158, q_up_n _ (show (47 : Nat) ≠ 52 by omega)]; exact hc152
  have hc165 : h157 (48) = some (q_ai 3 (fun i => nI ((fun _ => 0) i))) := by rw [eh158, q_up_n _ (show (48 : Nat) ≠ 52 by omega)]; exact hc153
  have hc166 : h157 (49) = some (q_ai 3 (fun i => nI ((fun _ => 0) i))) := by rw [eh158, q_up_n _ (show (49 : Nat) ≠ 52 by omega)]; exact hc154
  have hc167 : h157 (50) = some (q_az 3 (fun i => bI ((fun _ => false) i))) := by rw [eh158, q_up_n _ (show (50 : Nat) ≠ 52 by omega)]; exact hc155
  have hc168 : h157 (51) = some (q_az 3 (fun i => bI ((fun _ => false) i))) := by rw [eh158, q_up_n _ (show (51 : Nat) ≠ 52 by omega)]; exact hc156
  have hc169 : h157 (52) = some (q_az 4 (fun i => bI ((fun _ => false) i))) := by rw [eh158]; exact q_up_s _ _ _
  show q_Ev l G m_md_init 1 14 13 3419 84 [some (.ref (42)), none] [.ref (52), .ref (42)] h157 52 _
  refine e_putFE (pc := 84) d_md_init_84 (fs2 := [.int (0), .ref (43), .ref (44), .ref (45), .ref (46), .ref (47), .ref (48), .ref (49), .ref (50), .ref (51), .int (nI (0)), .int (nI (1)), .int (0), .ref (52), .null, .null, .null, .null, .null, .null, .null, .null, .null, .null, .null, .null, .null]) fl_md_42 rfl rfl hc159 (Nat.le_of_ble_eq_true rfl) (fun _ => rfl) (fun _ => rfl) rfl ?_
  obtain ⟨h170, eh171⟩ : ∃ x, x = q_up h157 (42) (.inr (5, [.int (0), .ref (43), .ref (44), .ref (45), .ref (46), .ref (47), .ref (48), .ref (49), .ref (50), .ref (51), .int (nI (0)), .int (nI (1)), .int (0), .ref (52), .null, .null, .null, .null, .null, .null, .null, .null, .null, .null, .null, .null, .null])) := ⟨_, rfl⟩
  rw [← eh171]
  have hc172 : h170 (42) = some (.inr (5, [.int (0), .ref (43), .ref (44), .ref (45), .ref (46), .ref (47), .ref (48), .ref (49), .ref (50), .ref (51), .int (nI (0)), .int (nI (1)), .int (0), .ref (52), .null, .null, .null, .null, .null, .null, .null, .null, .null, .null, .null, .null, .null])) := by rw [eh171]; exact q_up_s _ _ _
  have hc173 : h170 (43) = some (q_ai 240 (fun i => nI ((fun _ => 0) i))) := by rw [eh171, q_up_n _ (show (43 : Nat) ≠ 42 by omega)]; exact hc160
  have hc174 : h170 (44) = some (q_ai 240 (fun i => nI ((fun _ => 0) i))) := by rw [eh171, q_up_n _ (show (44 : Nat) ≠ 42 by omega)]; exact hc161
  have hc175 : h170 (45) = some (q_ai 240 (fun _ => 0)) := by rw [eh171, q_up_n _ (show (45 : Nat) ≠ 42 by omega)]; exact hc162
  have hc176 : h170 (46) = some (q_ai 240 (fun _ => 0)) := by rw [eh171, q_up_n _ (show (46 : Nat) ≠ 42 by omega)]; exact hc163
  have hc177 : h170 (47) = some (q_ai 3 (fun i => nI ((fun _ => 0) i))) := by rw [eh171, q_up_n _ (show (47 : Nat) ≠ 42 by omega)]; exact hc164
  have hc178 : h170 (48) = some (q_ai 3 (fun i => nI ((fun _ => 0) i))) := by rw [eh171, q_up_n _ (show (48 : Nat) ≠ 42 by omega)]; exact hc165
  have hc179 : h170 (49) = some (q_ai 3 (fun i => nI ((fun _ => 0) i))) := by rw [eh171, q_up_n _ (show (49 : Nat) ≠ 42 by omega)]; exact hc166
  have hc180 : h170 (50) = some (q_az 3 (fun i => bI ((fun _ => false) i))) := by rw [eh171, q_up_n _ (show (50 : Nat) ≠ 42 by omega)]; exact hc167
  have hc181 : h170 (51) = some (q_az 3 (fun i => bI ((fun _ => false) i))) := by rw [eh171, q_up_n _ (show (51 : Nat) ≠ 42 by omega)]; exact hc168
  have hc182 : h170 (52) = some (q_az 4 (fun i => bI ((fun _ => false) i))) := by rw [eh171, q_up_n _ (show (52 : Nat) ≠ 42 by omega)]; exact hc169
  refine e_aload_n (pc := 87) d_md_init_87 rfl ?_
  refine e_iconst (pc := 88) d_md_init_88 (v := (nI (4))) rfl ?_
  refine e_newZ (pc := 89) (n' := 4) (cc' := 12) (ss' := 3415) d_md_init_89 k_704 (nI_pos (by decide)) (nI_clamp (by decide)) (by decide) (by omega) (by omega) ?_
  obtain ⟨h183, eh184⟩ : ∃ x, x = q_up h170 (53) (q_az 4 (fun i => bI ((fun _ => false) i))) := ⟨_, rfl⟩
  refine q_Ev.hp (h1 := h183) eh184 ?_
  have hc185 : h183 (42) = some (.inr (5, [.int (0), .ref (43), .ref (44), .ref (45), .ref (46), .ref (47), .ref (48), .ref (49), .ref (50), .ref (51), .int (nI (0)), .int (nI (1)), .int (0), .ref (52), .null, .null, .null, .null, .null, .null, .null, .null, .null, .null, .null, .null, .null])) := by rw [eh184, q_up_n _ (show (42 : Nat) ≠ 53 by omega)]; exact hc172
  have hc186 : h183 (43) = some (q_ai 240 (fun i => nI ((fun _ => 0) i))) := by rw [eh184, q_up_n _ (show (43 : Nat) ≠ 53 by omega)]; exact hc173
  have hc187 : h183 (44) = some (q_ai 240 (fun i => nI ((fun _ => 0) i))) := by rw [eh184, q_up_n _ (show (44 : Nat) ≠ 53 by omega)]; exact hc174
  have hc188 : h183 (45) = some (q_ai 240 (fun _ => 0)) := by rw [eh184, q_up_n _ (show (45 : Nat) ≠ 53 by omega)]; exact hc175
  have hc189 : h183 (46) = some (q_ai 240 (fun _ => 0)) := by rw [eh184, q_up_n _ (show (46 : Nat) ≠ 53 by omega)]; exact hc176
  have hc190 : h183 (47) = some (q_ai 3 (fun i => nI ((fun _ => 0) i))) := by rw [eh184, q_up_n _ (show (47 : Nat) ≠ 53 by omega)]; exact hc177
  have hc191 : h183 (48) = some (q_ai 3 (fun i => nI ((fun _ => 0) i))) := by rw [eh184, q_up_n _ (show (48 : Nat) ≠ 53 by omega)]; exact hc178
  have hc192 : h183 (49) = some (q_ai 3 (fun i => nI ((fun _ => 0) i))) := by rw [eh184, q_up_n _ (show (49 : Nat) ≠ 53 by omega)]; exact hc179
  have hc193 : h183 (50) = some (q_az 3 (fun i => bI ((fun _ => false) i))) := by rw [eh184, q_up_n _ (show (50 : Nat) ≠ 53 by omega)]; exact hc180
  have hc194 : h183 (51) = some (q_az 3 (fun i => bI ((fun _ => false) i))) := by rw [eh184, q_up_n _ (show (51 : Nat) ≠ 53 by omega)]; exact hc181
  have hc195 : h183 (52) = some (q_az 4 (fun i => bI ((fun _ => false) i))) := by rw [eh184, q_up_n _ (show (52 : Nat) ≠ 53 by omega)]; exact hc182
  have hc196 : h183 (53) = some (q_az 4 (fun i => bI ((fun _ => false) i))) := by rw [eh184]; exact q_up_s _ _ _
  show q_Ev l G m_md_init 1 14 12 3415 91 [some (.ref (42)), none] [.ref (53), .ref (42)] h183 53 _
  refine e_putFE (pc := 91) d_md_init_91 (fs2 := [.int (0), .ref (43), .ref (44), .ref (45), .ref (46), .ref (47), .ref (48), .ref (49), .ref (50), .ref (51), .int (nI (0)), .int (nI (1)), .int (0), .ref (52), .ref (53), .null, .null, .null, .null, .null, .null, .null, .null, .null, .null, .null, .null]) fl_md_45 rfl rfl hc185 (Nat.le_of_ble_eq_true rfl) (fun _ => rfl) (fun _ => rfl) rfl ?_
  obtain ⟨h197, eh198⟩ : ∃ x, x = q_up h183 (42) (.inr (5, [.int (0), .ref (43), .ref (44), .ref (45), .ref (46), .ref (47), .ref (48), .ref (49), .ref (50), .ref (51), .int (nI (0)), .int (nI (1)), .int (0), .ref (52), .ref (53), .null, .null, .null, .null, .null, .null, .null, .null, .null, .null, .null, .null])) := ⟨_, rfl⟩
  rw [← eh198]
  have hc199 : h197 (42) = some (.inr (5, [.int (0), .ref (43), .ref (44), .ref (45), .ref (46), .ref (47), .ref (48), .ref (49), .ref (50), .ref (51), .int (nI (0)), .int (nI (1)), .int (0), .ref (52), .ref (53), .null, .null, .null, .null, .null, .null, .null, .null, .null, .null, .null, .null])) := by rw [eh198]; exact q_up_s _ _ _
  have hc200 : h197 (43) = some (q_ai 240 (fun i => nI ((fun _ => 0) i))) := by rw [eh198, q_up_n _ (show (43 : Nat) ≠ 42 by omega)]; exact hc186
  have hc201 : h197 (44) = some (q_ai 240 (fun i => nI ((fun _ => 0) i))) := by rw [eh198, q_up_n _ (show (44 : Nat) ≠ 42 by omega)]; exact hc187
  have hc202 : h197 (45) = some (q_ai 240 (fun _ => 0)) := by rw [eh198, q_up_n _ (show (45 : Nat) ≠ 42 by omega)]; exact hc188
  have hc203 : h197 (46) = some (q_ai 240 (fun _ => 0)) := by rw [eh198, q_up_n _ (show (46 : Nat) ≠ 42 by omega)]; exact hc189
  have hc204 : h197 (47) = some (q_ai 3 (fun i => nI ((fun _ => 0) i))) := by rw [eh198, q_up_n _ (show (47 : Nat) ≠ 42 by omega)]; exact hc190
  have hc205 : h197 (48) = some (q_ai 3 (fun i => nI ((fun _ => 0) i))) := by rw [eh198, q_up_n _ (show (48 : Nat) ≠ 42 by omega)]; exact hc191
  have hc206 : h197 (49) = some (q_ai 3 (fun i => nI ((fun _ => 0) i))) := by rw [eh198, q_up_n _ (show (49 : Nat) ≠ 42 by omega)]; exact hc192
  have hc207 : h197 (50) = some (q_az 3 (fun i => bI ((fun _ => false) i))) := by rw [eh198, q_up_n _ (show (50 : Nat) ≠ 42 by omega)]; exact hc193
  have hc208 : h197 (51) = some (q_az 3 (fun i => bI ((fun _ => false) i))) := by rw [eh198, q_up_n _ (show (51 : Nat) ≠ 42 by omega)]; exact hc194
  have hc209 : h197 (52) = some (q_az 4 (fun i => bI ((fun _ => false) i))) := by rw [eh198, q_up_n _ (show (52 : Nat) ≠ 42 by omega)]; exact hc195
  have hc210 : h197 (53) = some (q_az 4 (fun i => bI ((fun _ => false) i))) := by rw [eh198, q_up_n _ (show (53 : Nat) ≠ 42 by omega)]; exact hc196
  refine e_aload_n (pc := 94) d_md_init_94 rfl ?_
  refine e_iconst (pc := 95) d_md_init_95 (v := (nI (4))) rfl ?_
  refine e_newI (pc := 96) (n' := 4) (cc' := 11) (ss' := 3411) d_md_init_96 k_55 (nI_pos (by decide)) (nI_clamp (by decide)) (by decide) (by omega) (by omega) ?_
  obtain ⟨h211, eh212⟩ : ∃ x, x = q_up h197 (54) (q_ai 4 (fun _ => 0)) := ⟨_, rfl⟩
  refine q_Ev.hp (h1 := h211) eh212 ?_
  have hc213 : h211 (42) = some (.inr (5, [.int (0), .ref (43), .ref (44), .ref (45), .ref (46), .ref (47), .ref (48), .ref (49), .ref (50), .ref (51), .int (nI (0)), .int (nI (1)), .int (0), .ref (52), .ref (53), .null, .null, .null, .null, .null, .null, .null, .null, .null, .null, .null, .null])) := by rw [eh212, q_up_n _ (show (42 : Nat) ≠ 54 by omega)]; exact hc199
  have hc214 : h211 (43) = some (q_ai 240 (fun i => nI ((fun _ => 0) i))) := by rw [eh212, q_up_n _ (show (43 : Nat) ≠ 54 by omega)]; exact hc200
  have hc215 : h211 (44) = some (q_ai 240 (fun i => nI ((fun _ => 0) i))) := by rw [eh212, q_up_n _ (show (44 : Nat) ≠ 54 by omega)]; exact hc201
  have hc216 : h211 (45) = some (q_ai 240 (fun _ => 0)) := by rw [eh212, q_up_n _ (show (45 : Nat) ≠ 54 by omega)]; exact hc202
  have hc217 : h211 (46) = some (q_ai 240 (fun _ => 0)) := by rw [eh212, q_up_n _ (show (46 : Nat) ≠ 54 by omega)]; exact hc203
  have hc218 : h211 (47) = some (q_ai 3 (fun i => nI ((fun _ => 0) i))) := by rw [eh212, q_up_n _ (show (47 : Nat) ≠ 54 by omega)]; exact hc204
  have hc219 : h211 (48) = some (q_ai 3 (fun i => nI ((fun _ => 0) i))) := by rw [eh212, q_up_n _ (show (48 : Nat) ≠ 54 by omega)]; exact hc205
  have hc220 : h211 (49) = some (q_ai 3 (fun i => nI ((fun _ => 0) i))) := by rw [eh212, q_up_n _ (show (49 : Nat) ≠ 54 by omega)]; exact hc206
  have hc221 : h211 (50) = some (q_az 3 (fun i => bI ((fun _ => false) i))) := by rw [eh212, q_up_n _ (show (50 : Nat) ≠ 54 by omega)]; exact hc207
  have hc222 : h211 (51) = some (q_az 3 (fun i => bI ((fun _ => false) i))) := by rw [eh212, q_up_n _ (show (51 : Nat) ≠ 54 by omega)]; exact hc208
  have hc223 : h211 (52) = some (q_az 4 (fun i => bI ((fun _ => false) i))) := by rw [eh212, q_up_n _ (show (52 : Nat) ≠ 54 by omega)]; exact hc209
  have hc224 : h211 (53) = some (q_az 4 (fun i => bI ((fun _ => false) i))) := by rw [eh212, q_up_n _ (show (53 : Nat) ≠ 54 by omega)]; exact hc210
  have hc225 : h211 (54) = some (q_ai 4 (fun _ => 0)) := by rw [eh212]; exact q_up_s _ _ _
  show q_Ev l G m_md_init 1 14 11 3411 98 [some (.ref (42)), none] [.ref (54), .ref (42)] h211 54 _
  refine e_putFE (pc := 98) d_md_init_98 (fs2 := [.int (0), .ref (43), .ref (44), .ref (45), .ref (46), .ref (47), .ref (48), .ref (49), .ref (50), .ref (51), .int (nI (0)), .int (nI (1)), .int (0), .ref (52), .ref (53), .ref (54), .null, .null, .null, .null, .null, .null, .null, .null, .null, .null, .null]) fl_md_48 rfl rfl hc213 (Nat.le_of_ble_eq_true rfl) (fun _ => rfl) (fun _ => rfl) rfl ?_
  obtain ⟨h226, eh227⟩ : ∃ x, x = q_up h211 (42) (.inr (5, [.int (0), .ref (43), .ref (44), .ref (45), .ref (46), .ref (47), .ref (48), .ref (49), .ref (50), .ref (51), .int (nI (0)), .int (nI (1)), .int (0), .ref (52), .ref (53), .ref (54), .null, .null, .null, .null, .null, .null, .null, .null, .null, .null, .null])) := ⟨_, rfl⟩
  rw [← eh227]
  have hc228 : h226 (42) = some (.inr (5, [.int (0), .ref (43), .ref (44), .ref (45), .ref (46), .ref (47), .ref (48), .ref (49), .ref (50), .ref (51), .int (nI (0)), .int (nI (1)), .int (0), .ref (52), .ref (53), .ref (54), .null, .null, .null, .null, .null, .null, .null, .null, .null, .null, .null])) := by rw [eh227]; exact q_up_s _ _ _
  have hc229 : h226 (43) = some (q_ai 240 (fun i => nI ((fun _ => 0) i))) := by rw [eh227, q_up_n _ (show (43 : Nat) ≠ 42 by omega)]; exact hc214
  have hc230 : h226 (44) = some (q_ai 240 (fun i => nI ((fun _ => 0) i))) := by rw [eh227, q_up_n _ (show (44 : Nat) ≠ 42 by omega)]; exact hc215
  have hc231 : h226 (45) = some (q_ai 240 (fun _ => 0)) := by rw [eh227, q_up_n _ (show (45 : Nat) ≠ 42 by omega)]; exact hc216
  have hc232 : h226 (46) = some (q_ai 240 (fun _ => 0)) := by rw [eh227, q_up_n _ (show (46 : Nat) ≠ 42 by omega)]; exact hc217
  have hc233 : h226 (47) = some (q_ai 3 (fun i => nI ((fun _ => 0) i))) := by rw [eh227, q_up_n _ (show (47 : Nat) ≠ 42 by omega)]; exact hc218
  have hc234 : h226 (48) = some (q_ai 3 (fun i => nI ((fun _ => 0) i))) := by rw [eh227, q_up_n _ (show (48 : Nat) ≠ 42 by omega)]; exact hc219
  have hc235 : h226 (49) = some (q_ai 3 (fun i => nI ((fun _ => 0) i))) := by rw [eh227, q_up_n _ (show (49 : Nat) ≠ 42 by omega)]; exact hc220
  have hc236 : h226 (50) = some (q_az 3 (fun i => bI ((fun _ => false) i))) := by rw [eh227, q_up_n _ (show (50 : Nat) ≠ 42 by omega)]; exact hc221
  have hc237 : h226 (51) = some (q_az 3 (fun i => bI ((fun _ => false) i))) := by rw [eh227, q_up_n _ (show (51 : Nat) ≠ 42 by omega)]; exact hc222
  have hc238 : h226 (52) = some (q_az 4 (fun i => bI ((fun _ => false) i))) := by rw [eh227, q_up_n _ (show (52 : Nat) ≠ 42 by omega)]; exact hc223
  have hc239 : h226 (53) = some (q_az 4 (fun i => bI ((fun _ => false) i))) := by rw [eh227, q_up_n _ (show (53 : Nat) ≠ 42 by omega)]; exact hc224
  have hc240 : h226 (54) = some (q_ai 4 (fun i => nI ((fun _ => 0) i))) := by rw [eh227, q_up_n _ (show (54 : Nat) ≠ 42 by omega)]; exact hc225
  refine e_aload_n (pc := 101) d_md_init_101 rfl ?_
  refine e_iconst (pc := 102) d_md_init_102 (v := (nI (4))) rfl ?_
  refine e_newI (pc := 103) (n' := 4) (cc' := 10) (ss' := 3407) d_md_init_103 k_55 (nI_pos (by decide)) (nI_clamp (by decide)) (by decide) (by omega) (by omega) ?_
  obtain ⟨h241, eh242⟩ : ∃ x, x = q_up h226 (55) (q_ai 4 (fun _ => 0)) := ⟨_, rfl⟩
  refine q_Ev.hp (h1 := h241) eh242 ?_
  have hc243 : h241 (42) = some (.inr (5, [.int (0), .ref (43), .ref (44), .ref (45), .ref (46), .ref (47), .ref (48), .ref (49), .ref (50), .ref (51), .int (nI (0)), .int (nI (1)), .int (0), .ref (52), .ref (53), .ref (54), .null, .null, .null, .null, .null, .null, .null, .null, .null, .null, .null])) := by rw [eh242, q_up_n _ (show (42 : Nat) ≠ 55 by omega)]; exact hc228
  have hc244 : h241 (43) = some (q_ai 240 (fun i => nI ((fun _ => 0) i))) := by rw [eh242, q_up_n _ (show (43 : Nat) ≠ 55 by omega)]; exact hc229
  have hc245 : h241 (44) = some (q_ai 240 (fun i => nI ((fun _ => 0) i))) := by rw [eh242, q_up_n _ (show (44 : Nat) ≠ 55 by omega)]; exact hc230
  have hc246 : h241 (45) = some (q_ai 240 (fun _ => 0)) := by rw [eh242, q_up_n _ (show (45 : Nat) ≠ 55 by omega)]; exact hc231
  have hc247 : h241 (46) = some (q_ai 240 (fun _ => 0)) := by rw [eh242, q_up_n _ (show (46 : Nat) ≠ 55 by omega)]; exact hc232
  have hc248 : h241 (47) = some (q_ai 3 (fun i => nI ((fun _ => 0) i))) := by rw [eh242, q_up_n _ (show (47 : Nat) ≠ 55 by omega)]; exact hc233
  have hc249 : h241 (48) = some (q_ai 3 (fun i => nI ((fun _ => 0) i))) := by rw [eh242, q_up_n _ (show (48 : Nat) ≠ 55 by omega)]; exact hc234
  have hc250 : h241 (49) = some (q_ai 3 (fun i => nI ((fun _ => 0) i))) := by rw [eh242, q_up_n _ (show (49 : Nat) ≠ 55 by omega)]; exact hc235
  have hc251 : h241 (50) = some (q_az 3 (fun i => bI ((fun _ => false) i))) := by rw [eh242, q_up_n _ (show (50 : Nat) ≠ 55 by omega)]; exact hc236
  have hc252 : h241 (51) = some (q_az 3 (fun i => bI ((fun _ => false) i))) := by rw [eh242, q_up_n _ (show (51 : Nat) ≠ 55 by omega)]; exact hc237
  have hc253 : h241 (52) = some (q_az 4 (fun i => bI ((fun _ => false) i))) := by rw [eh242, q_up_n _ (show (52 : Nat) ≠ 55 by omega)]; exact hc238
  have hc254 : h241 (53) = some (q_az 4 (fun i => bI ((fun _ => false) i))) := by rw [eh242, q_up_n _ (show (53 : Nat) ≠ 55 by omega)]; exact hc239
  have hc255 : h241 (54) = some (q_ai 4 (fun i => nI ((fun _ => 0) i))) := by rw [eh242, q_up_n _ (show (54 : Nat) ≠ 55 by omega)]; exact hc240
  have hc256 : h241 (55) = some (q_ai 4 (fun _ => 0)) := by rw [eh242]; exact q_up_s _ _ _
  show q_Ev l G m_md_init 1 14 10 3407 105 [some (.ref (42)), none] [.ref (55), .ref (42)] h241 55 _
  refine e_putFE (pc := 105) d_md_init_105 (fs2 := [.int (0), .ref (43), .ref (44), .ref (45), .ref (46), .ref (47), .ref (48), .ref (49), .ref (50), .ref (51), .int (nI (0)), .int (nI (1)), .int (0), .ref (52), .ref (53), .ref (54), .ref (55), .null, .null, .null, .null, .null, .null, .null, .null, .null, .null]) fl_md_51 rfl rfl hc243 (Nat.le_of_ble_eq_true rfl) (fun _ => rfl) (fun _ => rfl) rfl ?_
  obtain ⟨h257, eh258⟩ : ∃ x, x = q_up h241 (42) (.inr (5, [.int (0), .ref (43), .ref (44), .ref (45), .ref (46), .ref (47), .ref (48), .ref (49), .ref (50), .ref (51), .int (nI (0)), .int (nI (1)), .int (0), .ref (52), .ref (53), .ref (54), .ref (55), .null, .null, .null, .null, .null, .null, .null, .null, .null, .null])) := ⟨_, rfl⟩
  rw [← eh258]
  have hc259 : h257 (42) = some (.inr (5, [.int (0), .ref (43), .ref (44), .ref (45), .ref (46), .ref (47), .ref (48), .ref (49), .ref (50), .ref (51), .int (nI (0)), .int (nI (1)), .int (0), .ref (52), .ref (53), .ref (54), .ref (55), .null, .null, .null, .null, .null, .null, .null, .null, .null, .null])) := by rw [eh258]; exact q_up_s _ _ _
  have hc260 : h257 (43) = some (q_ai 240 (fun i => nI ((fun _ => 0) i))) := by rw [eh258, q_up_n _ (show (43 : Nat) ≠ 42 by omega)]; exact hc244
  have hc261 : h257 (44) = some (q_ai 240 (fun i => nI ((fun _ => 0) i))) := by rw [eh258, q_up_n _ (show (44 : Nat) ≠ 42 by omega)]; exact hc245
  have hc262 : h257 (45) = some (q_ai 240 (fun _ => 0)) := by rw [eh258, q_up_n _ (show (45 : Nat) ≠ 42 by omega)]; exact hc246
  have hc263 : h257 (46) = some (q_ai 240 (fun _ => 0)) := by rw [eh258, q_up_n _ (show (46 : Nat) ≠ 42 by omega)]; exact hc247
  have hc264 : h257 (47) = some (q_ai 3 (fun i => nI ((fun _ => 0) i))) := by rw [eh258, q_up_n _ (show (47 : Nat) ≠ 42 by omega)]; exact hc248
  have hc265 : h257 (48) = some (q_ai 3 (fun i => nI ((fun _ => 0) i))) := by rw [eh258, q_up_n _ (show (48 : Nat) ≠ 42 by omega)]; exact hc249
  have hc266 : h257 (49) = some (q_ai 3 (fun i => nI ((fun _ => 0) i))) := by rw [eh258, q_up_n _ (show (49 : Nat) ≠ 42 by omega)]; exact hc250
  have hc267 : h257 (50) = some (q_az 3 (fun i => bI ((fun _ => false) i))) := by rw [eh258, q_up_n _ (show (50 : Nat) ≠ 42 by omega)]; exact hc251
  have hc268 : h257 (51) = some (q_az 3 (fun i => bI ((fun _ => false) i))) := by rw [eh258, q_up_n _ (show (51 : Nat) ≠ 42 by omega)]; exact hc252
  have hc269 : h257 (52) = some (q_az 4 (fun i => bI ((fun _ => false) i))) := by rw [eh258, q_up_n _ (show (52 : Nat) ≠ 42 by omega)]; exact hc253
  have hc270 : h257 (53) = some (q_az 4 (fun i => bI ((fun _ => false) i))) := by rw [eh258, q_up_n _ (show (53 : Nat) ≠ 42 by omega)]; exact hc254
  have hc271 : h257 (54) = some (q_ai 4 (fun i => nI ((fun _ => 0) i))) := by rw [eh258, q_up_n _ (show (54 : Nat) ≠ 42 by omega)]; exact hc255
  have hc272 : h257 (55) = some (q_ai 4 (fun _ => 0)) := by rw [eh258, q_up_n _ (show (55 : Nat) ≠ 42 by omega)]; exact hc256
  refine e_aload_n (pc := 108) d_md_init_108 rfl ?_
  refine e_iconst (pc := 109) d_md_init_109 (v := (nI (4))) rfl ?_
  refine e_newI (pc := 110) (n' := 4) (cc' := 9) (ss' := 3403) d_md_init_110 k_55 (nI_pos (by decide)) (nI_clamp (by decide)) (by decide) (by omega) (by omega) ?_
  obtain ⟨h273, eh274⟩ : ∃ x, x = q_up h257 (56) (q_ai 4 (fun _ => 0)) := ⟨_, rfl⟩
  refine q_Ev.hp (h1 := h273) eh274 ?_
  have hc275 : h273 (42) = some (.inr (5, [.int (0), .ref (43), .ref (44), .ref (45), .ref (46), .ref (47), .ref (48), .ref (49), .ref (50), .ref (51), .int (nI (0)), .int (nI (1)), .int (0), .ref (52), .ref (53), .ref (54), .ref (55), .null, .null, .null, .null, .null, .null, .null, .null, .null, .null])) := by rw [eh274, q_up_n _ (show (42 : Nat) ≠ 56 by omega)]; exact hc259
  have hc276 : h273 (43) = some (q_ai 240 (fun i => nI ((fun _ => 0) i))) := by rw [eh274, q_up_n _ (show (43 : Nat) ≠ 56 by omega)]; exact hc260
  have hc277 : h273 (44) = some (q_ai 240 (fun i => nI ((fun _ => 0) i))) := by rw [eh274, q_up_n _ (show (44 : Nat) ≠ 56 by omega)]; exact hc261
  have hc278 : h273 (45) = some (q_ai 240 (fun _ => 0)) := by rw [eh274, q_up_n _ (show (45 : Nat) ≠ 56 by omega)]; exact hc262
  have hc279 : h273 (46) = some (q_ai 240 (fun _ => 0)) := by rw [eh274, q_up_n _ (show (46 : Nat) ≠ 56 by omega)]; exact hc263
  have hc280 : h273 (47) = some (q_ai 3 (fun i => nI ((fun _ => 0) i))) := by rw [eh274, q_up_n _ (show (47 : Nat) ≠ 56 by omega)]; exact hc264
  have hc281 : h273 (48) = some (q_ai 3 (fun i => nI ((fun _ => 0) i))) := by rw [eh274, q_up_n _ (show (48 : Nat) ≠ 56 by omega)]; exact hc265
  have hc282 : h273 (49) = some (q_ai 3 (fun i => nI ((fun _ => 0) i))) := by rw [eh274, q_up_n _ (show (49 : Nat) ≠ 56 by omega)]; exact hc266
  have hc283 : h273 (50) = some (q_az 3 (fun i => bI ((fun _ => false) i))) := by rw [eh274, q_up_n _ (show (50 : Nat) ≠ 56 by omega)]; exact hc267
  have hc284 : h273 (51) = some (q_az 3 (fun i => bI ((fun _ => false) i))) := by rw [eh274, q_up_n _ (show (51 : Nat) ≠ 56 by omega)]; exact hc268
  have hc285 : h273 (52) = some (q_az 4 (fun i => bI ((fun _ => false) i))) := by rw [eh274, q_up_n _ (show (52 : Nat) ≠ 56 by omega)]; exact hc269
  have hc286 : h273 (53) = some (q_az 4 (fun i => bI ((fun _ => false) i))) := by rw [eh274, q_up_n _ (show (53 : Nat) ≠ 56 by omega)]; exact hc270
  have hc287 : h273 (54) = some (q_ai 4 (fun i => nI ((fun _ => 0) i))) := by rw [eh274, q_up_n _ (show (54 : Nat) ≠ 56 by omega)]; exact hc271
  have hc288 : h273 (55) = some (q_ai 4 (fun _ => 0)) := by rw [eh274, q_up_n _ (show (55 : Nat) ≠ 56 by omega)]; exact hc272
  have hc289 : h273 (56) = some (q_ai 4 (fun _ => 0)) := by rw [eh274]; exact q_up_s _ _ _
  show q_Ev l G m_md_init 1 14 9 3403 112 [some (.ref (42)), none] [.ref (56), .ref (42)] h273 56 _
  refine e_putFE (pc := 112) d_md_init_112 (fs2 := [.int (0), .ref (43), .ref (44), .ref (45), .ref (46), .ref (47), .ref (48), .ref (49), .ref (50), .ref (51), .int (nI (0)), .int (nI (1)), .int (0), .ref (52), .ref (53), .ref (54), .ref (55), .ref (56), .null, .null, .null, .null, .null, .null, .null, .null, .null]) fl_md_54 rfl rfl hc275 (Nat.le_of_ble_eq_true rfl) (fun _ => rfl) (fun _ => rfl) rfl ?_
  obtain ⟨h290, eh291⟩ : ∃ x, x = q_up h273 (42) (.inr (5, [.int (0), .ref (43), .ref (44), .ref (45), .ref (46), .ref (47), .ref (48), .ref (49), .ref (50), .ref (51), .int (nI (0)), .int (nI (1)), .int (0), .ref (52), .ref (53), .ref (54), .ref (55), .ref (56), .null, .null, .null, .null, .null, .null, .null, .null, .null])) := ⟨_, rfl⟩
  rw [← eh291]
  have hc292 : h290 (42) = some (.inr (5, [.int (0), .ref (43), .ref (44), .ref (45), .ref (46), .ref (47), .ref (48), .ref (49), .ref (50), .ref (51), .int (nI (0)), .int (nI (1)), .int (0), .ref (52), .ref (53), .ref (54), .ref (55), .ref (56), .null, .null, .null, .null, .null, .null, .null, .null, .null])) := by rw [eh291]; exact q_up_s _ _ _
  have hc293 : h290 (43) = some (q_ai 240 (fun i => nI ((fun _ => 0) i))) := by rw [eh291, q_up_n _ (show (43 : Nat) ≠ 42 by omega)]; exact hc276
  have hc294 : h290 (44) = some (q_ai 240 (fun i => nI ((fun _ => 0) i))) := by rw [eh291, q_up_n _ (show (44 : Nat) ≠ 42 by omega)]; exact hc277
  have hc295 : h290 (45) = some (q_ai 240 (fun _ => 0)) := by rw [eh291, q_up_n _ (show (45 : Nat) ≠ 42 by omega)]; exact hc278
  have hc296 : h290 (46) = some (q_ai 240 (fun _ => 0)) := by rw [eh291, q_up_n _ (show (46 : Nat) ≠ 42 by omega)]; exact hc279
  have hc297 : h290 (47) = some (q_ai 3 (fun i => nI ((fun _ => 0) i))) := by rw [eh291, q_up_n _ (show (47 : Nat) ≠ 42 by omega)]; exact hc280
  have hc298 : h290 (48) = some (q_ai 3 (fun i => nI ((fun _ => 0) i))) := by rw [eh291, q_up_n _ (show (48 : Nat) ≠ 42 by omega)]; exact hc281
  have hc299 : h290 (49) = some (q_ai 3 (fun i => nI ((fun _ => 0) i))) := by rw [eh291, q_up_n _ (show (49 : Nat) ≠ 42 by omega)]; exact hc282
  have hc300 : h290 (50) = some (q_az 3 (fun i => bI ((fun _ => false) i))) := by rw [eh291, q_up_n _ (show (50 : Nat) ≠ 42 by omega)]; exact hc283
  have hc301 : h290 (51) = some (q_az 3 (fun i => bI ((fun _ => false) i))) := by rw [eh291, q_up_n _ (show (51 : Nat) ≠ 42 by omega)]; exact hc284
  have hc302 : h290 (52) = some (q_az 4 (fun i => bI ((fun _ => false) i))) := by rw [eh291, q_up_n _ (show (52 : Nat) ≠ 42 by omega)]; exact hc285
  have hc303 : h290 (53) = some (q_az 4 (fun i => bI ((fun _ => false) i))) := by rw [eh291, q_up_n _ (show (53 : Nat) ≠ 42 by omega)]; exact hc286
  have hc304 : h290 (54) = some (q_ai 4 (fun i => nI ((fun _ => 0) i))) := by rw [eh291, q_up_n _ (show (54 : Nat) ≠ 42 by omega)]; exact hc287
  have hc305 : h290 (55) = some (q_ai 4 (fun _ => 0)) := by rw [eh291, q_up_n _ (show (55 : Nat) ≠ 42 by omega)]; exact hc288
  have hc306 : h290 (56) = some (q_ai 4 (fun _ => 0)) := by rw [eh291, q_up_n _ (show (56 : Nat) ≠ 42 by omega)]; exact hc289
  refine e_aload_n (pc := 115) d_md_init_115 rfl ?_
  refine e_sipush (pc := 116) d_md_init_116 (v := (nI (1036))) rfl ?_
  refine e_newZ (pc := 119) (n' := 1036) (cc' := 8) (ss' := 2367) d_md_init_119 k_704 (nI_pos (by decide)) (nI_clamp (by decide)) (by decide) (by omega) (by omega) ?_
  obtain ⟨h307, eh308⟩ : ∃ x, x = q_up h290 (57) (q_az 1036 (fun i => bI ((fun _ => false) i))) := ⟨_, rfl⟩
  refine q_Ev.hp (h1 := h307) eh308 ?_
  have hc309 : h307 (42) = some (.inr (5, [.int (0), .ref (43), .ref (44), .ref (45), .ref (46), .ref (47), .ref (48), .ref (49), .ref (50), .ref (51), .int (nI (0)), .int (nI (1)), .int (0), .ref (52), .ref (53), .ref (54), .ref (55), .ref (56), .null, .null, .null, .null, .null, .null, .null, .null, .null])) := by rw [eh308, q_up_n _ (show (42 : Nat) ≠ 57 by omega)]; exact hc292
  have hc310 : h307 (43) = some (q_ai 240 (fun i => nI ((fun _ => 0) i))) := by rw [eh308, q_up_n _ (show (43 : Nat) ≠ 57 by omega)]; exact hc293
  have hc311 : h307 (44) = some (q_ai 240 (fun i => nI ((fun _ => 0) i))) := by rw [eh308, q_up_n _ (show (44 : Nat) ≠ 57 by omega)]; exact hc294
  have hc312 : h307 (45) = some (q_ai 240 (fun _ => 0)) := by rw [eh308, q_up_n _ (show (45 : Nat) ≠ 57 by omega)]; exact hc295
  have hc313 : h307 (46) = some (q_ai 240 (fun _ => 0)) := by rw [eh308, q_up_n _ (show (46 : Nat) ≠ 57 by omega)]; exact hc296
  have hc314 : h307 (47) = some (q_ai 3 (fun i => nI ((fun _ => 0) i))) := by rw [eh308, q_up_n _ (show (47 : Nat) ≠ 57 by omega)]; exact hc297
  have hc315 : h307 (48) = some (q_ai 3 (fun i => nI ((fun _ => 0) i))) := by rw [eh308, q_up_n _ (show (48 : Nat) ≠ 57 by omega)]; exact hc298
  have hc316 : h307 (49) = some (q_ai 3 (fun i => nI ((fun _ => 0) i))) := by rw [eh308, q_up_n _ (show (49 : Nat) ≠ 57 by omega)]; exact hc299
  have hc317 : h307 (50) = some (q_az 3 (fun i => bI ((fun _ => false) i))) := by rw [eh308, q_up_n _ (show (50 : Nat) ≠ 57 by omega)]; exact hc300
  have hc318 : h307 (51) = some (q_az 3 (fun i => bI ((fun _ => false) i))) := by rw [eh308, q_up_n _ (show (51 : Nat) ≠ 57 by omega)]; exact hc301
  have hc319 : h307 (52) = some (q_az 4 (fun i => bI ((fun _ => false) i))) := by rw [eh308, q_up_n _ (show (52 : Nat) ≠ 57 by omega)]; exact hc302
  have hc320 : h307 (53) = some (q_az 4 (fun i => bI ((fun _ => false) i))) := by rw [eh308, q_up_n _ (show (53 : Nat) ≠ 57 by omega)]; exact hc303
  have hc321 : h307 (54) = some (q_ai 4 (fun i => nI ((fun _ => 0) i))) := by rw [eh308, q_up_n _ (show (54 : Nat) ≠ 57 by omega)]; exact hc304
  have hc322 : h307 (55) = some (q_ai 4 (fun _ => 0)) := by rw [eh308, q_up_n _ (show (55 : Nat) ≠ 57 by omega)]; exact hc305
  have hc323 : h307 (56) = some (q_ai 4 (fun _ => 0)) := by rw [eh308, q_up_n _ (show (56 : Nat) ≠ 57 by omega)]; exact hc306
  have hc324 : h307 (57) = some (q_az 1036 (fun i => bI ((fun _ => false) i))) := by rw [eh308]; exact q_up_s _ _ _
  show q_Ev l G m_md_init 1 14 8 2367 121 [some (.ref (42)), none] [.ref (57), .ref (42)] h307 57 _
  refine e_putFE (pc := 121) d_md_init_121 (fs2 := [.int (0), .ref (43), .ref (44), .ref (45), .ref (46), .ref (47), .ref (48), .ref (49), .ref (50), .ref (51), .int (nI (0)), .int (nI (1)), .int (0), .ref (52), .ref (53), .ref (54), .ref (55), .ref (56), .ref (57), .null, .null, .null, .null, .null, .null, .null, .null]) fl_md_57 rfl rfl hc309 (Nat.le_of_ble_eq_true rfl) (fun _ => rfl) (fun _ => rfl) rfl ?_
  obtain ⟨h325, eh326⟩ : ∃ x, x = q_up h307 (42) (.inr (5, [.int (0), .ref (43), .ref (44), .ref (45), .ref (46), .ref (47), .ref (48), .ref (49), .ref (50), .ref (51), .int (nI (0)), .int (nI (1)), .int (0), .ref (52), .ref (53), .ref (54), .ref (55), .ref (56), .ref (57), .null, .null, .null, .null, .null, .null, .null, .null])) := ⟨_, rfl⟩
  rw [← eh326]
  have hc327 : h325 (42) = some (.inr (5, [.int (0), .ref (43), .ref (44), .ref (45), .ref (46), .ref (47), .ref (48), .ref (49), .ref (50), .ref (51), .int (nI (0)), .int (nI (1)), .int (0), .ref (52), .ref (53), .ref (54), .ref (55), .ref (56), .ref (57), .null, .null, .null, .null, .null, .null, .null, .null])) := by rw [eh326]; exact q_up_s _ _ _
  have hc328 : h325 (43) = some (q_ai 240 (fun i => nI ((fun _ => 0) i))) := by rw [eh326, q_up_n _ (show (43 : Nat) ≠ 42 by omega)]; exact hc310
  have hc329 : h325 (44) = some (q_ai 240 (fun i => nI ((fun _ => 0) i))) := by rw [eh326, q_up_n _ (show (44 : Nat) ≠ 42 by omega)]; exact hc311
  have hc330 : h325 (45) = some (q_ai 240 (fun _ => 0)) := by rw [eh326, q_up_n _ (show (45 : Nat) ≠ 42 by omega)]; exact hc312
  have hc331 : h325 (46) = some (q_ai 240 (fun _ => 0)) := by rw [eh326, q_up_n _ (show (46 : Nat) ≠ 42 by omega)]; exact hc313
  have hc332 : h325 (47) = some (q_ai 3 (fun i => nI ((fun _ => 0) i))) := by rw [eh326, q_up_n _ (show (47 : Nat) ≠ 42 by omega)]; exact hc314
  have hc333 : h325 (48) = some (q_ai 3 (fun i => nI ((fun _ => 0) i))) := by rw [eh326, q_up_n _ (show (48 : Nat) ≠ 42 by omega)]; exact hc315
  have hc334 : h325 (49) = some (q_ai 3 (fun i => nI ((fun _ => 0) i))) := by rw [eh326, q_up_n _ (show (49 : Nat) ≠ 42 by omega)]; exact hc316
  have hc335 : h325 (50) = some (q_az 3 (fun i => bI ((fun _ => false) i))) := by rw [eh326, q_up_n _ (show (50 : Nat) ≠ 42 by omega)]; exact hc317
  have hc336 : h325 (51) = some (q_az 3 (fun i => bI ((fun _ => false) i))) := by rw [eh326, q_up_n _ (show (51 : Nat) ≠ 42 by omega)]; exact hc318
  have hc337 : h325 (52) = some (q_az 4 (fun i => bI ((fun _ => false) i))) := by rw [eh326, q_up_n _ (show (52 : Nat) ≠ 42 by omega)]; exact hc319
  have hc338 : h325 (53) = some (q_az 4 (fun i => bI ((fun _ => false) i))) := by rw [eh326, q_up_n _ (show (53 : Nat) ≠ 42 by omega)]; exact hc320
  have hc339 : h325 (54) = some (q_ai 4 (fun i => nI ((fun _ => 0) i))) := by rw [eh326, q_up_n _ (show (54 : Nat) ≠ 42 by omega)]; exact hc321
  have hc340 : h325 (55) = some (q_ai 4 (fun _ => 0)) := by rw [eh326, q_up_n _ (show (55 : Nat) ≠ 42 by omega)]; exact hc322
  have hc341 : h325 (56) = some (q_ai 4 (fun _ => 0)) := by rw [eh326, q_up_n _ (show (56 : Nat) ≠ 42 by omega)]; exact hc323
  have hc342 : h325 (57) = some (q_az 1036 (fun i => bI ((fun _ => false) i))) := by rw [eh326, q_up_n _ (show (57 : Nat) ≠ 42 by omega)]; exact hc324
  refine e_aload_n (pc := 124) d_md_init_124 rfl ?_
  refine e_sipush (pc := 125) d_md_init_125 (v := (nI (1036))) rfl ?_
  refine e_newZ (pc := 128) (n' := 1036) (cc' := 7) (ss' := 1331) d_md_init_128 k_704 (nI_pos (by decide)) (nI_clamp (by decide)) (by decide) (by omega) (by omega) ?_
  obtain ⟨h343, eh344⟩ : ∃ x, x = q_up h325 (58) (q_az 1036 (fun i => bI ((fun _ => false) i))) := ⟨_, rfl⟩
  refine q_Ev.hp (h1 := h343) eh344 ?_
  have hc345 : h343 (42) = some (.inr (5, [.int (0), .ref (43), .ref (44), .ref (45), .ref (46), .ref (47), .ref (48), .ref (49), .ref (50), .ref (51), .int (nI (0)), .int (nI (1)), .int (0), .ref (52), .ref (53), .ref (54), .ref (55), .ref (56), .ref (57), .null, .null, .null, .null, .null, .null, .null, .null])) := by rw [eh344, q_up_n _ (show (42 : Nat) ≠ 58 by omega)]; exact hc327
  have hc346 : h343 (43) = some (q_ai 240 (fun i => nI ((fun _ => 0) i))) := by rw [eh344, q_up_n _ (show (43 : Nat) ≠ 58 by omega)]; exact hc328
  have hc347 : h343 (44) = some (q_ai 240 (fun i => nI ((fun _ => 0) i))) := by rw [eh344, q_up_n _ (show (44 : Nat) ≠ 58 by omega)]; exact hc329
  have hc348 : h343 (45) = some (q_ai 240 (fun _ => 0)) := by rw [eh344, q_up_n _ (show (45 : Nat) ≠ 58 by omega)]; exact hc330
  have hc349 : h343 (46) = some (q_ai 240 (fun _ => 0)) := by rw [eh344, q_up_n _ (show (46 : Nat) ≠ 58 by omega)]; exact hc331
  have hc350 : h343 (47) = some (q_ai 3 (fun i => nI ((fun _ => 0) i))) := by rw [eh344, q_up_n _ (show (47 : Nat) ≠ 58 by omega)]; exact hc332
  have hc351 : h343 (48) = some (q_ai 3 (fun i => nI ((fun _ => 0) i))) := by rw [eh344, q_up_n _ (show (48 : Nat) ≠ 58 by omega)]; exact hc333
  have hc352 : h343 (49) = some (q_ai 3 (fun i => nI ((fun _ => 0) i))) := by rw [eh344, q_up_n _ (show (49 : Nat) ≠ 58 by omega)]; exact hc334
  have hc353 : h343 (50) = some (q_az 3 (fun i => bI ((fun _ => false) i))) := by rw [eh344, q_up_n _ (show (50 : Nat) ≠ 58 by omega)]; exact hc335
  have hc354 : h343 (51) = some (q_az 3 (fun i => bI ((fun _ => false) i))) := by rw [eh344, q_up_n _ (show (51 : Nat) ≠ 58 by omega)]; exact hc336
  have hc355 : h343 (52) = some (q_az 4 (fun i => bI ((fun _ => false) i))) := by rw [eh344, q_up_n _ (show (52 : Nat) ≠ 58 by omega)]; exact hc337
  have hc356 : h343 (53) = some (q_az 4 (fun i => bI ((fun _ => false) i))) := by rw [eh344, q_up_n _ (show (53 : Nat) ≠ 58 by omega)]; exact hc338
  have hc357 : h343 (54) = some (q_ai 4 (fun i => nI ((fun _ => 0) i))) := by rw [eh344, q_up_n _ (show (54 : Nat) ≠ 58 by omega)]; exact hc339
  have hc358 : h343 (55) = some (q_ai 4 (fun _ => 0)) := by rw [eh344, q_up_n _ (show (55 : Nat) ≠ 58 by omega)]; exact hc340
  have hc359 : h343 (56) = some (q_ai 4 (fun _ => 0)) := by rw [eh344, q_up_n _ (show (56 : Nat) ≠ 58 by omega)]; exact hc341
  have hc360 : h343 (57) = some (q_az 1036 (fun i => bI ((fun _ => false) i))) := by rw [eh344, q_up_n _ (show (57 : Nat) ≠ 58 by omega)]; exact hc342
  have hc361 : h343 (58) = some (q_az 1036 (fun i => bI ((fun _ => false) i))) := by rw [eh344]; exact q_up_s _ _ _
  show q_Ev l G m_md_init 1 14 7 1331 130 [some (.ref (42)), none] [.ref (58), .ref (42)] h343 58 _
  refine e_putFE (pc := 130) d_md_init_130 (fs2 := [.int (0), .ref (43), .ref (44), .ref (45), .ref (46), .ref (47), .ref (48), .ref (49), .ref (50), .ref (51), .int (nI (0)), .int (nI (1)), .int (0), .ref (52), .ref (53), .ref (54), .ref (55), .ref (56), .ref (57), .ref (58), .null, .null, .null, .null, .null, .null, .null]) fl_md_60 rfl rfl hc345 (Nat.le_of_ble_eq_true rfl) (fun _ => rfl) (fun _ => rfl) rfl ?_
  obtain ⟨h362, eh363⟩ : ∃ x, x = q_up h343 (42) (.inr (5, [.int (0), .ref (43), .ref (44), .ref (45), .ref (46), .ref (47), .ref (48), .ref (49), .ref (50), .ref (51), .int (nI (0)), .int (nI (1)), .int (0), .ref (52), .ref (53), .ref (54), .ref (55), .ref (56), .ref (57), .ref (58), .null, .null, .null, .null, .null, .null, .null])) := ⟨_, rfl⟩
  rw [← eh363]
  have hc364 : h362 (42) = some (.inr (5, [.int (0), .ref (43), .ref (44), .ref (45), .ref (46), .ref (47), .ref (48), .ref (49), .ref (50), .ref (51), .int (nI (0)), .int (nI (1)), .int (0), .ref (52), .ref (53), .ref (54), .ref (55), .ref (56), .ref (57), .ref (58), .null, .null, .null, .null, .null, .null, .null])) := by rw [eh363]; exact q_up_s _ _ _
  have hc365 : h362 (43) = some (q_ai 240 (fun i => nI ((fun _ => 0) i))) := by rw [eh363, q_up_n _ (show (43 : Nat) ≠ 42 by omega)]; exact hc346
  have hc366 : h362 (44) = some (q_ai 240 (fun i => nI ((fun _ => 0) i))) := by rw [eh363, q_up_n _ (show (44 : Nat) ≠ 42 by omega)]; exact hc347
  have hc367 : h362 (45) = some (q_ai 240 (fun _ => 0)) := by rw [eh363, q_up_n _ (show (45 : Nat) ≠ 42 by omega)]; exact hc348
  have hc368 : h362 (46) = some (q_ai 240 (fun _ => 0)) := by rw [eh363, q_up_n _ (show (46 : Nat) ≠ 42 by omega)]; exact hc349
  have hc369 : h362 (47) = some (q_ai 3 (fun i => nI ((fun _ => 0) i))) := by rw [eh363, q_up_n _ (show (47 : Nat) ≠ 42 by omega)]; exact hc350
  have hc370 : h362 (48) = some (q_ai 3 (fun i => nI ((fun _ => 0) i))) := by rw [eh363, q_up_n _ (show (48 : Nat) ≠ 42 by omega)]; exact hc351
  have hc371 : h362 (49) = some (q_ai 3 (fun i => nI ((fun _ => 0) i))) := by rw [eh363, q_up_n _ (show (49 : Nat) ≠ 42 by omega)]; exact hc352
  have hc372 : h362 (50) = some (q_az 3 (fun i => bI ((fun _ => false) i))) := by rw [eh363, q_up_n _ (show (50 : Nat) ≠ 42 by omega)]; exact hc353
  have hc373 : h362 (51) = some (q_az 3 (fun i => bI ((fun _ => false) i))) := by rw [eh363, q_up_n _ (show (51 : Nat) ≠ 42 by omega)]; exact hc354
  have hc374 : h362 (52) = some (q_az 4 (fun i => bI ((fun _ => false) i))) := by rw [eh363, q_up_n _ (show (52 : Nat) ≠ 42 by omega)]; exact hc355
  have hc375 : h362 (53) = some (q_az 4 (fun i => bI ((fun _ => false) i))) := by rw [eh363, q_up_n _ (show (53 : Nat) ≠ 42 by omega)]; exact hc356
  have hc376 : h362 (54) = some (q_ai 4 (fun i => nI ((fun _ => 0) i))) := by rw [eh363, q_up_n _ (show (54 : Nat) ≠ 42 by omega)]; exact hc357
  have hc377 : h362 (55) = some (q_ai 4 (fun _ => 0)) := by rw [eh363, q_up_n _ (show (55 : Nat) ≠ 42 by omega)]; exact hc358
  have hc378 : h362 (56) = some (q_ai 4 (fun _ => 0)) := by rw [eh363, q_up_n _ (show (56 : Nat) ≠ 42 by omega)]; exact hc359
  have hc379 : h362 (57) = some (q_az 1036 (fun i => bI ((fun _ => false) i))) := by rw [eh363, q_up_n _ (show (57 : Nat) ≠ 42 by omega)]; exact hc360
  have hc380 : h362 (58) = some (q_az 1036 (fun i => bI ((fun _ => false) i))) := by rw [eh363, q_up_n _ (show (58 : Nat) ≠ 42 by omega)]; exact hc361
  refine e_aload_n (pc := 133) d_md_init_133 rfl ?_
  refine e_bipush (pc := 134) d_md_init_134 (v := (nI (32))) rfl ?_
  refine e_newI (pc := 136) (n' := 32) (cc' := 6) (ss' := 1299) d_md_init_136 k_55 (nI_pos (by decide)) (nI_clamp (by decide)) (by decide) (by omega) (by omega) ?_
  obtain ⟨h381, eh382⟩ : ∃ x, x = q_up h362 (59) (q_ai 32 (fun _ => 0)) := ⟨_, rfl⟩
  refine q_Ev.hp (h1 := h381) eh382 ?_
  have hc383 : h381 (42) = some (.inr (5, [.int (0), .ref (43), .ref (44), .ref (45), .ref (46), .ref (47), .ref (48), .ref (49), .ref (50), .ref (51), .int (nI (0)), .int (nI (1)), .int (0), .ref (52), .ref (53), .ref (54), .ref (55), .ref (56), .ref (57), .ref (58), .null, .null, .null, .null, .null, .null, .null])) := by rw [eh382, q_up_n _ (show (42 : Nat) ≠ 59 by omega)]; exact hc364
  have hc384 : h381 (43) = some (q_ai 240 (fun i => nI ((fun _ => 0) i))) := by rw [eh382, q_up_n _ (show (43 : Nat) ≠ 59 by omega)]; exact hc365
  have hc385 : h381 (44) = some (q_ai 240 (fun i => nI ((fun _ => 0) i))) := by rw [eh382, q_up_n _ (show (44 : Nat) ≠ 59 by omega)]; exact hc366
  have hc386 : h381 (45) = some (q_ai 240 (fun _ => 0)) := by rw [eh382, q_up_n _ (show (45 : Nat) ≠ 59 by omega)]; exact hc367
  have hc387 : h381 (46) = some (q_ai 240 (fun _ => 0)) := by rw [eh382, q_up_n _ (show (46 : Nat) ≠ 59 by omega)]; exact hc368
  have hc388 : h381 (47) = some (q_ai 3 (fun i => nI ((fun _ => 0) i))) := by rw [eh382, q_up_n _ (show (47 : Nat) ≠ 59 by omega)]; exact hc369
  have hc389 : h381 (48) = some (q_ai 3 (fun i => nI ((fun _ => 0) i))) := by rw [eh382, q_up_n _ (show (48 : Nat) ≠ 59 by omega)]; exact hc370
  have hc390 : h381 (49) = some (q_ai 3 (fun i => nI ((fun _ => 0) i))) := by rw [eh382, q_up_n _ (show (49 : Nat) ≠ 59 by omega)]; exact hc371
  have hc391 : h381 (50) = some (q_az 3 (fun i => bI ((fun _ => false) i))) := by rw [eh382, q_up_n _ (show (50 : Nat) ≠ 59 by omega)]; exact hc372
  have hc392 : h381 (51) = some (q_az 3 (fun i => bI ((fun _ => false) i))) := by rw [eh382, q_up_n _ (show (51 : Nat) ≠ 59 by omega)]; exact hc373
  have hc393 : h381 (52) = some (q_az 4 (fun i => bI ((fun _ => false) i))) := by rw [eh382, q_up_n _ (show (52 : Nat) ≠ 59 by omega)]; exact hc374
  have hc394 : h381 (53) = some (q_az 4 (fun i => bI ((fun _ => false) i))) := by rw [eh382, q_up_n _ (show (53 : Nat) ≠ 59 by omega)]; exact hc375
  have hc395 : h381 (54) = some (q_ai 4 (fun i => nI ((fun _ => 0) i))) := by rw [eh382, q_up_n _ (show (54 : Nat) ≠ 59 by omega)]; exact hc376
  have hc396 : h381 (55) = some (q_ai 4 (fun _ => 0)) := by rw [eh382, q_up_n _ (show (55 : Nat) ≠ 59 by omega)]; exact hc377
  have hc397 : h381 (56) = some (q_ai 4 (fun _ => 0)) := by rw [eh382, q_up_n _ (show (56 : Nat) ≠ 59 by omega)]; exact hc378
  have hc398 : h381 (57) = some (q_az 1036 (fun i => bI ((fun _ => false) i))) := by rw [eh382, q_up_n _ (show (57 : Nat) ≠ 59 by omega)]; exact hc379
  have hc399 : h381 (58) = some (q_az 1036 (fun i => bI ((fun _ => false) i))) := by rw [eh382, q_up_n _ (show (58 : Nat) ≠ 59 by omega)]; exact hc380
  have hc400 : h381 (59) = some (q_ai 32 (fun _ => 0)) := by rw [eh382]; exact q_up_s _ _ _
  show q_Ev l G m_md_init 1 14 6 1299 138 [some (.ref (42)), none] [.ref (59), .ref (42)] h381 59 _
  refine e_putFE (pc := 138) d_md_init_138 (fs2 := [.int (0), .ref (43), .ref (44), .ref (45), .ref (46), .ref (47), .ref (48), .ref (49), .ref (50), .ref (51), .int (nI (0)), .int (nI (1)), .int (0), .ref (52), .ref (53), .ref (54), .ref (55), .ref (56), .ref (57), .ref (58), .ref (59), .null, .null, .null, .null, .null, .null]) fl_md_63 rfl rfl hc383 (Nat.le_of_ble_eq_true rfl) (fun _ => rfl) (fun _ => rfl) rfl ?_
  obtain ⟨h401, eh402⟩ : ∃ x, x = q_up h381 (42) (.inr (5, [.int (0), .ref (43), .ref (44), .ref (45), .ref (46), .ref (47), .ref (48), .ref (49), .ref (50), .ref (51), .int (nI (0)), .int (nI (1)), .int (0), .ref (52), .ref (53), .ref (54), .ref (55), .ref (56), .ref (57), .ref (58), .ref (59), .null, .null, .null, .null, .null, .null])) := ⟨_, rfl⟩
  rw [← eh402]
  have hc403 : h401 (42) = some (.inr (5, [.int (0), .ref (43), .ref (44), .ref (45), .ref (46), .ref (47), .ref (48), .ref (49), .ref (50), .ref (51), .int (nI (0)), .int (nI (1)), .int (0), .ref (52), .ref (53), .ref (54), .ref (55), .ref (56), .ref (57), .ref (58), .ref (59), .null, .null, .null, .null, .null, .null])) := by rw [eh402]; exact q_up_s _ _ _
  have hc404 : h401 (43) = some (q_ai 240 (fun i => nI ((fun _ => 0) i))) := by rw [eh402, q_up_n _ (show (43 : Nat) ≠ 42 by omega)]; exact hc384
  have hc405 : h401 (44) = some (q_ai 240 (fun i => nI ((fun _ => 0) i))) := by rw [eh402, q_up_n _ (show (44 : Nat) ≠ 42 by omega)]; exact hc385
  have hc406 : h401 (45) = some (q_ai 240 (fun _ => 0)) := by rw [eh402, q_up_n _ (show (45 : Nat) ≠ 42 by omega)]; exact hc386
  have hc407 : h401 (46) = some (q_ai 240 (fun _ => 0)) := by rw [eh402, q_up_n _ (show (46 : Nat) ≠ 42 by omega)]; exact hc387
  have hc408 : h401 (47) = some (q_ai 3 (fun i => nI ((fun _ => 0) i))) := by rw [eh402, q_up_n _ (show (47 : Nat) ≠ 42 by omega)]; exact hc388
  have hc409 : h401 (48) = some (q_ai 3 (fun i => nI ((fun _ => 0) i))) := by rw [eh402, q_up_n _ (show (48 : Nat) ≠ 42 by omega)]; exact hc389
  have hc410 : h401 (49) = some (q_ai 3 (fun i => nI ((fun _ => 0) i))) := by rw [eh402, q_up_n _ (show (49 : Nat) ≠ 42 by omega)]; exact hc390
  have hc411 : h401 (50) = some (q_az 3 (fun i => bI ((fun _ => false) i))) := by rw [eh402, q_up_n _ (show (50 : Nat) ≠ 42 by omega)]; exact hc391
  have hc412 : h401 (51) = some (q_az 3 (fun i => bI ((fun _ => false) i))) := by rw [eh402, q_up_n _ (show (51 : Nat) ≠ 42 by omega)]; exact hc392
  have hc413 : h401 (52) = some (q_az 4 (fun i => bI ((fun _ => false) i))) := by rw [eh402, q_up_n _ (show (52 : Nat) ≠ 42 by omega)]; exact hc393
  have hc414 : h401 (53) = some (q_az 4 (fun i => bI ((fun _ => false) i))) := by rw [eh402, q_up_n _ (show (53 : Nat) ≠ 42 by omega)]; exact hc394
  have hc415 : h401 (54) = some (q_ai 4 (fun i => nI ((fun _ => 0) i))) := by rw [eh402, q_up_n _ (show (54 : Nat) ≠ 42 by omega)]; exact hc395
  have hc416 : h401 (55) = some (q_ai 4 (fun _ => 0)) := by rw [eh402, q_up_n _ (show (55 : Nat) ≠ 42 by omega)]; exact hc396
  have hc417 : h401 (56) = some (q_ai 4 (fun _ => 0)) := by rw [eh402, q_up_n _ (show (56 : Nat) ≠ 42 by omega)]; exact hc397
  have hc418 : h401 (57) = some (q_az 1036 (fun i => bI ((fun _ => false) i))) := by rw [eh402, q_up_n _ (show (57 : Nat) ≠ 42 by omega)]; exact hc398
  have hc419 : h401 (58) = some (q_az 1036 (fun i => bI ((fun _ => false) i))) := by rw [eh402, q_up_n _ (show (58 : Nat) ≠ 42 by omega)]; exact hc399
  have hc420 : h401 (59) = some (q_ai 32 (fun _ => 0)) := by rw [eh402, q_up_n _ (show (59 : Nat) ≠ 42 by omega)]; exact hc400
  refine e_aload_n (pc := 141) d_md_init_141 rfl ?_
  refine e_iconst (pc := 142) d_md_init_142 (v := (nI (4))) rfl ?_
  refine e_newI (pc := 143) (n' := 4) (cc' := 5) (ss' := 1295) d_md_init_143 k_55 (nI_pos (by decide)) (nI_clamp (by decide)) (by decide) (by omega) (by omega) ?_
  obtain ⟨h421, eh422⟩ : ∃ x, x = q_up h401 (60) (q_ai 4 (fun _ => 0)) := ⟨_, rfl⟩
  refine q_Ev.hp (h1 := h421) eh422 ?_
  have hc423 : h421 (42) = some (.inr (5, [.int (0), .ref (43), .ref (44), .ref (45), .ref (46), .ref (47), .ref (48), .ref (49), .ref (50), .ref (51), .int (nI (0)), .int (nI (1)), .int (0), .ref (52), .ref (53), .ref (54), .ref (55), .ref (56), .ref (57), .ref (58), .ref (59), .null, .null, .null, .null, .null, .null])) := by rw [eh422, q_up_n _ (show (42 : Nat) ≠ 60 by omega)]; exact hc403
  have hc424 : h421 (43) = some (q_ai 240 (fun i => nI ((fun _ => 0) i))) := by rw [eh422, q_up_n _ (show (43 : Nat) ≠ 60 by omega)]; exact hc404
  have hc425 : h421 (44) = some (q_ai 240 (fun i => nI ((fun _ => 0) i))) := by rw [eh422, q_up_n _ (show (44 : Nat) ≠ 60 by omega)]; exact hc405
  have hc426 : h421 (45) = some (q_ai 240 (fun _ => 0)) := by rw [eh422, q_up_n _ (show (45 : Nat) ≠ 60 by omega)]; exact hc406
  have hc427 : h421 (46) = some (q_ai 240 (fun _ => 0)) := by rw [eh422, q_up_n _ (show (46 : Nat) ≠ 60 by omega)]; exact hc407
  have hc428 : h421 (47) = some (q_ai 3 (fun i => nI ((fun _ => 0) i))) := by rw [eh422, q_up_n _ (show (47 : Nat) ≠ 60 by omega)]; exact hc408
  have hc429 : h421 (48) = some (q_ai 3 (fun i => nI ((fun _ => 0) i))) := by rw [eh422, q_up_n _ (show (48 : Nat) ≠ 60 by omega)]; exact hc409
  have hc430 : h421 (49) = some (q_ai 3 (fun i => nI ((fun _ => 0) i))) := by rw [eh422, q_up_n _ (show (49 : Nat) ≠ 60 by omega)]; exact hc410
  have hc431 : h421 (50) = some (q_az 3 (fun i => bI ((fun _ => false) i))) := by rw [eh422, q_up_n _ (show (50 : Nat) ≠ 60 by omega)]; exact hc411
  have hc432 : h421 (51) = some (q_az 3 (fun i => bI ((fun _ => false) i))) := by rw [eh422, q_up_n _ (show (51 : Nat) ≠ 60 by omega)]; exact hc412
  have hc433 : h421 (52) = some (q_az 4 (fun i => bI ((fun _ => false) i))) := by rw [eh422, q_up_n _ (show (52 : Nat) ≠ 60 by omega)]; exact hc413
  have hc434 : h421 (53) = some (q_az 4 (fun i => bI ((fun _ => false) i))) := by rw [eh422, q_up_n _ (show (53 : Nat) ≠ 60 by omega)]; exact hc414
  have hc435 : h421 (54) = some (q_ai 4 (fun i => nI ((fun _ => 0) i))) := by rw [eh422, q_up_n _ (show (54 : Nat) ≠ 60 by omega)]; exact hc415
  have hc436 : h421 (55) = some (q_ai 4 (fun _ => 0)) := by rw [eh422, q_up_n _ (show (55 : Nat) ≠ 60 by omega)]; exact hc416
  have hc437 : h421 (56) = some (q_ai 4 (fun _ => 0)) := by rw [eh422, q_up_n _ (show (56 : Nat) ≠ 60 by omega)]; exact hc417
  have hc438 : h421 (57) = some (q_az 1036 (fun i => bI ((fun _ => false) i))) := by rw [eh422, q_up_n _ (show (57 : Nat) ≠ 60 by omega)]; exact hc418
  have hc439 : h421 (58) = some (q_az 1036 (fun i => bI ((fun _ => false) i))) := by rw [eh422, q_up_n _ (show (58 : Nat) ≠ 60 by omega)]; exact hc419
  have hc440 : h421 (59) = some (q_ai 32 (fun _ => 0)) := by rw [eh422, q_up_n _ (show (59 : Nat) ≠ 60 by omega)]; exact hc420
  have hc441 : h421 (60) = some (q_ai 4 (fun _ => 0)) := by rw [eh422]; exact q_up_s _ _ _
  show q_Ev l G m_md_init 1 14 5 1295 145 [some (.ref (42)), none] [.ref (60), .ref (42)] h421 60 _
  refine e_putFE (pc := 145) d_md_init_145 (fs2 := [.int (0), .ref (43), .ref (44), .ref (45), .ref (46), .ref (47), .ref (48), .ref (49), .ref (50), .ref (51), .int (nI (0)), .int (nI (1)), .int (0), .ref (52), .ref (53), .ref (54), .ref (55), .ref (56), .ref (57), .ref (58), .ref (59), .ref (60), .null, .null, .null, .null, .null]) fl_md_66 rfl rfl hc423 (Nat.le_of_ble_eq_true rfl) (fun _ => rfl) (fun _ => rfl) rfl ?_
  obtain ⟨h442, eh443⟩ : ∃ x, x = q_up h421 (42) (.inr (5, [.int (0), .ref (43), .ref (44), .ref (45), .ref (46), .ref (47), .ref (48), .ref (49), .ref (50), .ref (51), .int (nI (0)), .int (nI (1)), .int (0), .ref (52), .ref (53), .ref (54), .ref (55), .ref (56), .ref (57), .ref (58), .ref (59), .ref (60), .null, .null, .null, .null, .null])) := ⟨_, rfl⟩
  rw [← eh443]
  have hc444 : h442 (42) = some (.inr (5, [.int (0), .ref (43), .ref (44), .ref (45), .ref (46), .ref (47), .ref (48), .ref (49), .ref (50), .ref (51), .int (nI (0)), .int (nI (1)), .int (0), .ref (52), .ref (53), .ref (54), .ref (55), .ref (56), .ref (57), .ref (58), .ref (59), .ref (60), .null, .null, .null, .null, .null])) := by rw [eh443]; exact q_up_s _ _ _
  have hc445 : h442 (43) = some (q_ai 240 (fun i => nI ((fun _ => 0) i))) := by rw [eh443, q_up_n _ (show (43 : Nat) ≠ 42 by omega)]; exact hc424
  have hc446 : h442 (44) = some (q_ai 240 (fun i => nI ((fun _ => 0) i))) := by rw [eh443, q_up_n _ (show (44 : Nat) ≠ 42 by omega)]; exact hc425
  have hc447 : h442 (45) = some (q_ai 240 (fun _ => 0)) := by rw [eh443, q_up_n _ (show (45 : Nat) ≠ 42 by omega)]; exact hc426
  have hc448 : h442 (46) = some (q_ai 240 (fun _ => 0)) := by rw [eh443, q_up_n _ (show (46 : Nat) ≠ 42 by omega)]; exact hc427
  have hc449 : h442 (47) = some (q_ai 3 (fun i => nI ((fun _ => 0) i))) := by rw [eh443, q_up_n _ (show (47 : Nat) ≠ 42 by omega)]; exact hc428
  have hc450 : h442 (48) = some (q_ai 3 (fun i => nI ((fun _ => 0) i))) := by rw [eh443, q_up_n _ (show (48 : Nat) ≠ 42 by omega)]; exact hc429
  have hc451 : h442 (49) = some (q_ai 3 (fun i => nI ((fun _ => 0) i))) := by rw [eh443, q_up_n _ (show (49 : Nat) ≠ 42 by omega)]; exact hc430
  have hc452 : h442 (50) = some (q_az 3 (fun i => bI ((fun _ => false) i))) := by rw [eh443, q_up_n _ (show (50 : Nat) ≠ 42 by omega)]; exact hc431
  have hc453 : h442 (51) = some (q_az 3 (fun i => bI ((fun _ => false) i))) := by rw [eh443, q_up_n _ (show (51 : Nat) ≠ 42 by omega)]; exact hc432
  have hc454 : h442 (52) = some (q_az 4 (fun i => bI ((fun _ => false) i))) := by rw [eh443, q_up_n _ (show (52 : Nat) ≠ 42 by omega)]; exact hc433
  have hc455 : h442 (53) = some (q_az 4 (fun i => bI ((fun _ => false) i))) := by rw [eh443, q_up_n _ (show (53 : Nat) ≠ 42 by omega)]; exact hc434
  have hc456 : h442 (54) = some (q_ai 4 (fun i => nI ((fun _ => 0) i))) := by rw [eh443, q_up_n _ (show (54 : Nat) ≠ 42 by omega)]; exact hc435
  have hc457 : h442 (55) = some (q_ai 4 (fun _ => 0)) := by rw [eh443, q_up_n _ (show (55 : Nat) ≠ 42 by omega)]; exact hc436
  have hc458 : h442 (56) = some (q_ai 4 (fun _ => 0)) := by rw [eh443, q_up_n _ (show (56 : Nat) ≠ 42 by omega)]; exact hc437
  have hc459 : h442 (57) = some (q_az 1036 (fun i => bI ((fun _ => false) i))) := by rw [eh443, q_up_n _ (show (57 : Nat) ≠ 42 by omega)]; exact hc438
  have hc460 : h442 (58) = some (q_az 1036 (fun i => bI ((fun _ => false) i))) := by rw [eh443, q_up_n _ (show (58 : Nat) ≠ 42 by omega)]; exact hc439
  have hc461 : h442 (59) = some (q_ai 32 (fun _ => 0)) := by rw [eh443, q_up_n _ (show (59 : Nat) ≠ 42 by omega)]; exact hc440
  have hc462 : h442 (60) = some (q_ai 4 (fun i => nI ((fun _ => 0) i))) := by rw [eh443, q_up_n _ (show (60 : Nat) ≠ 42 by omega)]; exact hc441
  refine e_aload_n (pc := 148) d_md_init_148 rfl ?_
  refine e_sipush (pc := 149) d_md_init_149 (v := (nI (259))) rfl ?_
  refine e_newZ (pc := 152) (n' := 259) (cc' := 4) (ss' := 1036) d_md_init_152 k_704 (nI_pos (by decide)) (nI_clamp (by decide)) (by decide) (by omega) (by omega) ?_
  obtain ⟨h463, eh464⟩ : ∃ x, x = q_up h442 (61) (q_az 259 (fun i => bI ((fun _ => false) i))) := ⟨_, rfl⟩
  refine q_Ev.hp (h1 := h463) eh464 ?_
  have hc465 : h463 (42) = some (.inr (5, [.int (0), .ref (43), .ref (44), .ref (45), .ref (46), .ref (47), .ref (48), .ref (49), .ref (50), .ref (51), .int (nI (0)), .int (nI (1)), .int (0), .ref (52), .ref (53), .ref (54), .ref (55), .ref (56), .ref (57), .ref (58), .ref (59), .ref (60), .null, .null, .null, .null, .null])) := by rw [eh464, q_up_n _ (show (42 : Nat) ≠ 61 by omega)]; exact hc444
  have hc466 : h463 (43) = some (q_ai 240 (fun i => nI ((fun _ => 0) i))) := by rw [eh464, q_up_n _ (show (43 : Nat) ≠ 61 by omega)]; exact hc445
  have hc467 : h463 (44) = some (q_ai 240 (fun i => nI ((fun _ => 0) i))) := by rw [eh464, q_up_n _ (show (44 : Nat) ≠ 61 by omega)]; exact hc446
  have hc468 : h463 (45) = some (q_ai 240 (fun _ => 0)) := by rw [eh464, q_up_n _ (show (45 : Nat) ≠ 61 by omega)]; exact hc447
  have hc469 : h463 (46) = some (q_ai 240 (fun _ => 0)) := by rw [eh464, q_up_n _ (show (46 : Nat) ≠ 61 by omega)]; exact hc448
  have hc470 : h463 (47) = some (q_ai 3 (fun i => nI ((fun _ => 0) i))) := by rw [eh464, q_up_n _ (show (47 : Nat) ≠ 61 by omega)]; exact hc449
  have hc471 : h463 (48) = some (q_ai 3 (fun i => nI ((fun _ => 0) i))) := by rw [eh464, q_up_n _ (show (48 : Nat) ≠ 61 by omega)]; exact hc450
  have hc472 : h463 (49) = some (q_ai 3 (fun i => nI ((fun _ => 0) i))) := by rw [eh464, q_up_n _ (show (49 : Nat) ≠ 61 by omega)]; exact hc451
  have hc473 : h463 (50) = some (q_az 3 (fun i => bI ((fun _ => false) i))) := by rw [eh464, q_up_n _ (show (50 : Nat) ≠ 61 by omega)]; exact hc452
  have hc474 : h463 (51) = some (q_az 3 (fun i => bI ((fun _ => false) i))) := by rw [eh464, q_up_n _ (show (51 : Nat) ≠ 61 by omega)]; exact hc453
  have hc475 : h463 (52) = some (q_az 4 (fun i => bI ((fun _ => false) i))) := by rw [eh464, q_up_n _ (show (52 : Nat) ≠ 61 by omega)]; exact hc454
  have hc476 : h463 (53) = some (q_az 4 (fun i => bI ((fun _ => false) i))) := by rw [eh464, q_up_n _ (show (53 : Nat) ≠ 61 by omega)]; exact hc455
  have hc477 : h463 (54) = some (q_ai 4 (fun i => nI ((fun _ => 0) i))) := by rw [eh464, q_up_n _ (show (54 : Nat) ≠ 61 by omega)]; exact hc456
  have hc478 : h463 (55) = some (q_ai 4 (fun _ => 0)) := by rw [eh464, q_up_n _ (show (55 : Nat) ≠ 61 by omega)]; exact hc457
  have hc479 : h463 (56) = some (q_ai 4 (fun _ => 0)) := by rw [eh464, q_up_n _ (show (56 : Nat) ≠ 61 by omega)]; exact hc458
  have hc480 : h463 (57) = some (q_az 1036 (fun i => bI ((fun _ => false) i))) := by rw [eh464, q_up_n _ (show (57 : Nat) ≠ 61 by omega)]; exact hc459
  have hc481 : h463 (58) = some (q_az 1036 (fun i => bI ((fun _ => false) i))) := by rw [eh464, q_up_n _ (show (58 : Nat) ≠ 61 by omega)]; exact hc460
  have hc482 : h463 (59) = some (q_ai 32 (fun _ => 0)) := by rw [eh464, q_up_n _ (show (59 : Nat) ≠ 61 by omega)]; exact hc461
  have hc483 : h463 (60) = some (q_ai 4 (fun i => nI ((fun _ => 0) i))) := by rw [eh464, q_up_n _ (show (60 : Nat) ≠ 61 by omega)]; exact hc462
  have hc484 : h463 (61) = some (q_az 259 (fun i => bI ((fun _ => false) i))) := by rw [eh464]; exact q_up_s _ _ _
  show q_Ev l G m_md_init 1 14 4 1036 154 [some (.ref (42)), none] [.ref (61), .ref (42)] h463 61 _
  refine e_putFE (pc := 154) d_md_init_154 (fs2 := [.int (0), .ref (43), .ref (44), .ref (45), .ref (46), .ref (47), .ref (48), .ref (49), .ref (50), .ref (51), .int (nI (0)), .int (nI (1)), .int (0), .ref (52), .ref (53), .ref (54), .ref (55), .ref (56), .ref (57), .ref (58), .ref (59), .ref (60), .ref (61), .null, .null, .null, .null]) fl_md_69 rfl rfl hc465 (Nat.le_of_ble_eq_true rfl) (fun _ => rfl) (fun _ => rfl) rfl ?_
  obtain ⟨h485, eh486⟩ : ∃ x, x = q_up h463 (42) (.inr (5, [.int (0), .ref (43), .ref (44), .ref (45), .ref (46), .ref (47), .ref (48), .ref (49), .ref (50), .ref (51), .int (nI (0)), .int (nI (1)), .int (0), .ref (52), .ref (53), .ref (54), .ref (55), .ref (56), .ref (57), .ref (58), .ref (59), .ref (60), .ref (61), .null, .null, .null, .null])) := ⟨_, rfl⟩
  rw [← eh486]
  have hc487 : h485 (42) = some (.inr (5, [.int (0), .ref (43), .ref (44), .ref (45), .ref (46), .ref (47), .ref (48), .ref (49), .ref (50), .ref (51), .int (nI (0)), .int (nI (1)), .int (0), .ref (52), .ref (53), .ref (54), .ref (55), .ref (56), .ref (57), .ref (58), .ref (59), .ref (60), .ref (61), .null, .null, .null, .null])) := by rw [eh486]; exact q_up_s _ _ _
  have hc488 : h485 (43) = some (q_ai 240 (fun i => nI ((fun _ => 0) i))) := by rw [eh486, q_up_n _ (show (43 : Nat) ≠ 42 by omega)]; exact hc466
  have hc489 : h485 (44) = some (q_ai 240 (fun i => nI ((fun _ => 0) i))) := by rw [eh486, q_up_n _ (show (44 : Nat) ≠ 42 by omega)]; exact hc467
  have hc490 : h485 (45) = some (q_ai 240 (fun _ => 0)) := by rw [eh486, q_up_n _ (show (45 : Nat) ≠ 42 by omega)]; exact hc468
  have hc491 : h485 (46) = some (q_ai 240 (fun _ => 0)) := by rw [eh486, q_up_n _ (show (46 : Nat) ≠ 42 by omega)]; exact hc469
  have hc492 : h485 (47) = some (q_ai 3 (fun i => nI ((fun _ => 0) i))) := by rw [eh486, q_up_n _ (show (47 : Nat) ≠ 42 by omega)]; exact hc470
  have hc493 : h485 (48) = some (q_ai 3 (fun i => nI ((fun _ => 0) i))) := by rw [eh486, q_up_n _ (show (48 : Nat) ≠ 42 by omega)]; exact hc471
  have hc494 : h485 (49) = some (q_ai 3 (fun i => nI ((fun _ => 0) i))) := by rw [eh486, q_up_n _ (show (49 : Nat) ≠ 42 by omega)]; exact hc472
  have hc495 : h485 (50) = some (q_az 3 (fun i => bI ((fun _ => false) i))) := by rw [eh486, q_up_n _ (show (50 : Nat) ≠ 42 by omega)]; exact hc473
  have hc496 : h485 (51) = some (q_az 3 (fun i => bI ((fun _ => false) i))) := by rw [eh486, q_up_n _ (show (51 : Nat) ≠ 42 by omega)]; exact hc474
  have hc497 : h485 (52) = some (q_az 4 (fun i => bI ((fun _ => false) i))) := by rw [eh486, q_up_n _ (show (52 : Nat) ≠ 42 by omega)]; exact hc475
  have hc498 : h485 (53) = some (q_az 4 (fun i => bI ((fun _ => false) i))) := by rw [eh486, q_up_n _ (show (53 : Nat) ≠ 42 by omega)]; exact hc476
  have hc499 : h485 (54) = some (q_ai 4 (fun i => nI ((fun _ => 0) i))) := by rw [eh486, q_up_n _ (show (54 : Nat) ≠ 42 by omega)]; exact hc477
  have hc500 : h485 (55) = some (q_ai 4 (fun _ => 0)) := by rw [eh486, q_up_n _ (show (55 : Nat) ≠ 42 by omega)]; exact hc478
  have hc501 : h485 (56) = some (q_ai 4 (fun _ => 0)) := by rw [eh486, q_up_n _ (show (56 : Nat) ≠ 42 by omega)]; exact hc479
  have hc502 : h485 (57) = some (q_az 1036 (fun i => bI ((fun _ => false) i))) := by rw [eh486, q_up_n _ (show (57 : Nat) ≠ 42 by omega)]; exact hc480
  have hc503 : h485 (58) = some (q_az 1036 (fun i => bI ((fun _ => false) i))) := by rw [eh486, q_up_n _ (show (58 : Nat) ≠ 42 by omega)]; exact hc481
  have hc504 : h485 (59) = some (q_ai 32 (fun _ => 0)) := by rw [eh486, q_up_n _ (show (59 : Nat) ≠ 42 by omega)]; exact hc482
  have hc505 : h485 (60) = some (q_ai 4 (fun i => nI ((fun _ => 0) i))) := by rw [eh486, q_up_n _ (show (60 : Nat) ≠ 42 by omega)]; exact hc483
  have hc506 : h485 (61) = some (q_az 259 (fun i => bI ((fun _ => false) i))) := by rw [eh486, q_up_n _ (show (61 : Nat) ≠ 42 by omega)]; exact hc484
  refine e_aload_n (pc := 157) d_md_init_157 rfl ?_
  refine e_sipush (pc := 158) d_md_init_158 (v := (nI (259))) rfl ?_
  refine e_newI (pc := 161) (n' := 259) (cc' := 3) (ss' := 777) d_md_init_161 k_55 (nI_pos (by decide)) (nI_clamp (by decide)) (by decide) (by omega) (by omega) ?_
  obtain ⟨h507, eh508⟩ : ∃ x, x = q_up h485 (62) (q_ai 259 (fun _ => 0)) := ⟨_, rfl⟩
  refine q_Ev.hp (h1 := h507) eh508 ?_
  have hc509 : h507 (42) = some (.inr (5, [.int (0), .ref (43), .ref (44), .ref (45), .ref (46), .ref (47), .ref (48), .ref (49), .ref (50), .ref (51), .int (nI (0)), .int (nI (1)), .int (0), .ref (52), .ref (53), .ref (54), .ref (55), .ref (56), .ref (57), .ref (58), .ref (59), .ref (60), .ref (61), .null, .null, .null, .null])) := by rw [eh508, q_up_n _ (show (42 : Nat) ≠ 62 by omega)]; exact hc487
  have hc510 : h507 (43) = some (q_ai 240 (fun i => nI ((fun _ => 0) i))) := by rw [eh508, q_up_n _ (show (43 : Nat) ≠ 62 by omega)]; exact hc488
  have hc511 : h507 (44) = some (q_ai 240 (fun i => nI ((fun _ => 0) i))) := by rw [eh508, q_up_n _ (show (44 : Nat) ≠ 62 by omega)]; exact hc489
  have hc512 : h507 (45) = some (q_ai 240 (fun _ => 0)) := by rw [eh508, q_up_n _ (show (45 : Nat) ≠ 62 by omega)]; exact hc490
  have hc513 : h507 (46) = some (q_ai 240 (fun _ => 0)) := by rw [eh508, q_up_n _ (show (46 : Nat) ≠ 62 by omega)]; exact hc491
  have hc514 : h507 (47) = some (q_ai 3 (fun i => nI ((fun _ => 0) i))) := by rw [eh508, q_up_n _ (show (47 : Nat) ≠ 62 by omega)]; exact hc492
  have hc515 : h507 (48) = some (q_ai 3 (fun i => nI ((fun _ => 0) i))) := by rw [eh508, q_up_n _ (show (48 : Nat) ≠ 62 by omega)]; exact hc493
  have hc516 : h507 (49) = some (q_ai 3 (fun i => nI ((fun _ => 0) i))) := by rw [eh508, q_up_n _ (show (49 : Nat) ≠ 62 by omega)]; exact hc494
  have hc517 : h507 (50) = some (q_az 3 (fun i => bI ((fun _ => false) i))) := by rw [eh508, q_up_n _ (show (50 : Nat) ≠ 62 by omega)]; exact hc495
  have hc518 : h507 (51) = some (q_az 3 (fun i => bI ((fun _ => false) i))) := by rw [eh508, q_up_n _ (show (51 : Nat) ≠ 62 by omega)]; exact hc496
  have hc519 : h507 (52) = some (q_az 4 (fun i => bI ((fun _ => false) i))) := by rw [eh508, q_up_n _ (show (52 : Nat) ≠ 62 by omega)]; exact hc497
  have hc520 : h507 (53) = some (q_az 4 (fun i => bI ((fun _ => false) i))) := by rw [eh508, q_up_n _ (show (53 : Nat) ≠ 62 by omega)]; exact hc498
  have hc521 : h507 (54) = some (q_ai 4 (fun i => nI ((fun _ => 0) i))) := by rw [eh508, q_up_n _ (show (54 : Nat) ≠ 62 by omega)]; exact hc499
  have hc522 : h507 (55) = some (q_ai 4 (fun _ => 0)) := by rw [eh508, q_up_n _ (show (55 : Nat) ≠ 62 by omega)]; exact hc500
  have hc523 : h507 (56) = some (q_ai 4 (fun _ => 0)) := by rw [eh508, q_up_n _ (show (56 : Nat) ≠ 62 by omega)]; exact hc501
  have hc524 : h507 (57) = some (q_az 1036 (fun i => bI ((fun _ => false) i))) := by rw [eh508, q_up_n _ (show (57 : Nat) ≠ 62 by omega)]; exact hc502
  have hc525 : h507 (58) = some (q_az 1036 (fun i => bI ((fun _ => false) i))) := by rw [eh508, q_up_n _ (show (58 : Nat) ≠ 62 by omega)]; exact hc503
  have hc526 : h507 (59) = some (q_ai 32 (fun _ => 0)) := by rw [eh508, q_up_n _ (show (59 : Nat) ≠ 62 by omega)]; exact hc504
  have hc527 : h507 (60) = some (q_ai 4 (fun i => nI ((fun _ => 0) i))) := by rw [eh508, q_up_n _ (show (60 : Nat) ≠ 62 by omega)]; exact hc505
  have hc528 : h507 (61) = some (q_az 259 (fun i => bI ((fun _ => false) i))) := by rw [eh508, q_up_n _ (show (61 : Nat) ≠ 62 by omega)]; exact hc506
  have hc529 : h507 (62) = some (q_ai 259 (fun _ => 0)) := by rw [eh508]; exact q_up_s _ _ _
  show q_Ev l G m_md_init 1 14 3 777 163 [some (.ref (42)), none] [.ref (62), .ref (42)] h507 62 _
  refine e_putFE (pc := 163) d_md_init_163 (fs2 := [.int (0), .ref (43), .ref (44), .ref (45), .ref (46), .ref (47), .ref (48), .ref (49), .ref (50), .ref (51), .int (nI (0)), .int (nI (1)), .int (0), .ref (52), .ref (53), .ref (54), .ref (55), .ref (56), .ref (57), .ref (58), .ref (59), .ref (60), .ref (61), .ref (62), .null, .null, .null]) fl_md_72 rfl rfl hc509 (Nat.le_of_ble_eq_true rfl) (fun _ => rfl) (fun _ => rfl) rfl ?_
  obtain ⟨h530, eh531⟩ : ∃ x, x = q_up h507 (42) (.inr (5, [.int (0), .ref (43), .ref (44), .ref (45), .ref (46), .ref (47), .ref (48), .ref (49), .ref (50), .ref (51), .int (nI (0)), .int (nI (1)), .int (0), .ref (52), .ref (53), .ref (54), .ref (55), .ref (56), .ref (57), .ref (58), .ref (59), .ref (60), .ref (61), .ref (62), .null, .null, .null])) := ⟨_, rfl⟩
  rw [← eh531]
  have hc532 : h530 (42) = some (.inr (5, [.int (0), .ref (43), .ref (44), .ref (45), .ref (46), .ref (47), .ref (48), .ref (49), .ref (50), .ref (51), .int (nI (0)), .int (nI (1)), .int (0), .ref (52), .ref (53), .ref (54), .ref (55), .ref (56), .ref (57), .ref (58), .ref (59), .ref (60), .ref (61), .ref (62), .null, .null, .null])) := by rw [eh531]; exact q_up_s _ _ _
  have hc533 : h530 (43) = some (q_ai 240 (fun i => nI ((fun _ => 0) i))) := by rw [eh531, q_up_n _ (show (43 : Nat) ≠ 42 by omega)]; exact hc510
  have hc534 : h530 (44) = some (q_ai 240 (fun i => nI ((fun _ => 0) i))) := by rw [eh531, q_up_n _ (show (44 : Nat) ≠ 42 by omega)]; exact hc511
  have hc535 : h530 (45) = some (q_ai 240 (fun _ => 0)) := by rw [eh531, q_up_n _ (show (45 : Nat) ≠ 42 by omega)]; exact hc512
  have hc536 : h530 (46) = some (q_ai 240 (fun _ => 0)) := by rw [eh531, q_up_n _ (show (46 : Nat) ≠ 42 by omega)]; exact hc513
  have hc537 : h530 (47) = some (q_ai 3 (fun i => nI ((fun _ => 0) i))) := by rw [eh531, q_up_n _ (show (47 : Nat) ≠ 42 by omega)]; exact hc514
  have hc538 : h530 (48) = some (q_ai 3 (fun i => nI ((fun _ => 0) i))) := by rw [eh531, q_up_n _ (show (48 : Nat) ≠ 42 by omega)]; exact hc515
  have hc539 : h530 (49) = some (q_ai 3 (fun i => nI ((fun _ => 0) i))) := by rw [eh531, q_up_n _ (show (49 : Nat) ≠ 42 by omega)]; exact hc516
  have hc540 : h530 (50) = some (q_az 3 (fun i => bI ((fun _ => false) i))) := by rw [eh531, q_up_n _ (show (50 : Nat) ≠ 42 by omega)]; exact hc517
  have hc541 : h530 (51) = some (q_az 3 (fun i => bI ((fun _ => false) i))) := by rw [eh531, q_up_n _ (show (51 : Nat) ≠ 42 by omega)]; exact hc518
  have hc542 : h530 (52) = some (q_az 4 (fun i => bI ((fun _ => false) i))) := by rw [eh531, q_up_n _ (show (52 : Nat) ≠ 42 by omega)]; exact hc519
  have hc543 : h530 (53) = some (q_az 4 (fun i => bI ((fun _ => false) i))) := by rw [eh531, q_up_n _ (show (53 : Nat) ≠ 42 by omega)]; exact hc520
  have hc544 : h530 (54) = some (q_ai 4 (fun i => nI ((fun _ => 0) i))) := by rw [eh531, q_up_n _ (show (54 : Nat) ≠ 42 by omega)]; exact hc521
  have hc545 : h530 (55) = some (q_ai 4 (fun _ => 0)) := by rw [eh531, q_up_n _ (show (55 : Nat) ≠ 42 by omega)]; exact hc522
  have hc546 : h530 (56) = some (q_ai 4 (fun _ => 0)) := by rw [eh531, q_up_n _ (show (56 : Nat) ≠ 42 by omega)]; exact hc523
  have hc547 : h530 (57) = some (q_az 1036 (fun i => bI ((fun _ => false) i))) := by rw [eh531, q_up_n _ (show (57 : Nat) ≠ 42 by omega)]; exact hc524
  have hc548 : h530 (58) = some (q_az 1036 (fun i => bI ((fun _ => false) i))) := by rw [eh531, q_up_n _ (show (58 : Nat) ≠ 42 by omega)]; exact hc525
  have hc549 : h530 (59) = some (q_ai 32 (fun _ => 0)) := by rw [eh531, q_up_n _ (show (59 : Nat) ≠ 42 by omega)]; exact hc526
  have hc550 : h530 (60) = some (q_ai 4 (fun i => nI ((fun _ => 0) i))) := by rw [eh531, q_up_n _ (show (60 : Nat) ≠ 42 by omega)]; exact hc527
  have hc551 : h530 (61) = some (q_az 259 (fun i => bI ((fun _ => false) i))) := by rw [eh531, q_up_n _ (show (61 : Nat) ≠ 42 by omega)]; exact hc528
  have hc552 : h530 (62) = some (q_ai 259 (fun _ => 0)) := by rw [eh531, q_up_n _ (show (62 : Nat) ≠ 42 by omega)]; exact hc529
  refine e_aload_n (pc := 166) d_md_init_166 rfl ?_
  refine e_sipush (pc := 167) d_md_init_167 (v := (nI (259))) rfl ?_
  refine e_newI (pc := 170) (n' := 259) (cc' := 2) (ss' := 518) d_md_init_170 k_55 (nI_pos (by decide)) (nI_clamp (by decide)) (by decide) (by omega) (by omega) ?_
  obtain ⟨h553, eh554⟩ : ∃ x, x = q_up h530 (63) (q_ai 259 (fun _ => 0)) := ⟨_, rfl⟩
  refine q_Ev.hp (h1 := h553) eh554 ?_
  have hc555 : h553 (42) = some (.inr (5, [.int (0), .ref (43), .ref (44), .ref (45), .ref (46), .ref (47), .ref (48), .ref (49), .ref (50), .ref (51), .int (nI (0)), .int (nI (1)), .int (0), .ref (52), .ref (53), .ref (54), .ref (55), .ref (56), .ref (57), .ref (58), .ref (59), .ref (60), .ref (61), .ref (62), .null, .null, .null])) := by rw [eh554, q_up_n _ (show (42 : Nat) ≠ 63 by omega)]; exact hc532
  have hc556 : h553 (43) = some (q_ai 240 (fun i => nI ((fun _ => 0) i))) := by rw [eh554, q_up_n _ (show (43 : Nat) ≠ 63 by omega)]; exact hc533
  have hc557 : h553 (44) = some (q_ai 240 (fun i => nI ((fun _ => 0) i))) := by rw [eh554, q_up_n _ (show (44 : Nat) ≠ 63 by omega)]; exact hc534
  have hc558 : h553 (45) = some (q_ai 240 (fun _ => 0)) := by rw [eh554, q_up_n _ (show (45 : Nat) ≠ 63 by omega)]; exact hc535
  have hc559 : h553 (46) = some (q_ai 240 (fun _ => 0)) := by rw [eh554, q_up_n _ (show (46 : Nat) ≠ 63 by omega)]; exact hc536
  have hc560 : h553 (47) = some (q_ai 3 (fun i => nI ((fun _ => 0) i))) := by rw [eh554, q_up_n _ (show (47 : Nat) ≠ 63 by omega)]; exact hc537
  have hc561 : h553 (48) = some (q_ai 3 (fun i => nI ((fun _ => 0) i))) := by rw [eh554, q_up_n _ (show (48 : Nat) ≠ 63 by omega)]; exact hc538
  have hc562 : h553 (49) = some (q_ai 3 (fun i => nI ((fun _ => 0) i))) := by rw [eh554, q_up_n _ (show (49 : Nat) ≠ 63 by omega)]; exact hc539
  have hc563 : h553 (50) = some (q_az 3 (fun i => bI ((fun _ => false) i))) := by rw [eh554, q_up_n _ (show (50 : Nat) ≠ 63 by omega)]; exact hc540
  have hc564 : h553 (51) = some (q_az 3 (fun i => bI ((fun _ => false) i))) := by rw [eh554, q_up_n _ (show (51 : Nat) ≠ 63 by omega)]; exact hc541
  have hc565 : h553 (52) = some (q_az 4 (fun i => bI ((fun _ => false) i))) := by rw [eh554, q_up_n _ (show (52 : Nat) ≠ 63 by omega)]; exact hc542
  have hc566 : h553 (53) = some (q_az 4 (fun i => bI ((fun _ => false) i))) := by rw [eh554, q_up_n _ (show (53 : Nat) ≠ 63 by omega)]; exact hc543
  have hc567 : h553 (54) = some (q_ai 4 (fun i => nI ((fun _ => 0) i))) := by rw [eh554, q_up_n _ (show (54 : Nat) ≠ 63 by omega)]; exact hc544
  have hc568 : h553 (55) = some (q_ai 4 (fun _ => 0)) := by rw [eh554, q_up_n _ (show (55 : Nat) ≠ 63 by omega)]; exact hc545
  have hc569 : h553 (56) = some (q_ai 4 (fun _ => 0)) := by rw [eh554, q_up_n _ (show (56 : Nat) ≠ 63 by omega)]; exact hc546
  have hc570 : h553 (57) = some (q_az 1036 (fun i => bI ((fun _ => false) i))) := by rw [eh554, q_up_n _ (show (57 : Nat) ≠ 63 by omega)]; exact hc547
  have hc571 : h553 (58) = some (q_az 1036 (fun i => bI ((fun _ => false) i))) := by rw [eh554, q_up_n _ (show (58 : Nat) ≠ 63 by omega)]; exact hc548
  have hc572 : h553 (59) = some (q_ai 32 (fun _ => 0)) := by rw [eh554, q_up_n _ (show (59 : Nat) ≠ 63 by omega)]; exact hc549
  have hc573 : h553 (60) = some (q_ai 4 (fun i => nI ((fun _ => 0) i))) := by rw [eh554, q_up_n _ (show (60 : Nat) ≠ 63 by omega)]; exact hc550
  have hc574 : h553 (61) = some (q_az 259 (fun i => bI ((fun _ => false) i))) := by rw [eh554, q_up_n _ (show (61 : Nat) ≠ 63 by omega)]; exact hc551
  have hc575 : h553 (62) = some (q_ai 259 (fun _ => 0)) := by rw [eh554, q_up_n _ (show (62 : Nat) ≠ 63 by omega)]; exact hc552
  have hc576 : h553 (63) = some (q_ai 259 (fun _ => 0)) := by rw [eh554]; exact q_up_s _ _ _
  show q_Ev l G m_md_init 1 14 2 518 172 [some (.ref (42)), none] [.ref (63), .ref (42)] h553 63 _
  refine e_putFE (pc := 172) d_md_init_172 (fs2 := [.int (0), .ref (43), .ref (44), .ref (45), .ref (46), .ref (47), .ref (48), .ref (49), .ref (50), .ref (51), .int (nI (0)), .int (nI (1)), .int (0), .ref (52), .ref (53), .ref (54), .ref (55), .ref (56), .ref (57), .ref (58), .ref (59), .ref (60), .ref (61), .ref (62), .ref (63), .null, .null]) fl_md_75 rfl rfl hc555 (Nat.le_of_ble_eq_true rfl) (fun _ => rfl) (fun _ => rfl) rfl ?_
  obtain ⟨h577, eh578⟩ : ∃ x, x = q_up h553 (42) (.inr (5, [.int (0), .ref (43), .ref (44), .ref (45), .ref (46), .ref (47), .ref (48), .ref (49), .ref (50), .ref (51), .int (nI (0)), .int (nI (1)), .int (0), .ref (52), .ref (53), .ref (54), .ref (55), .ref (56), .ref (57), .ref (58), .ref (59), .ref (60), .ref (61), .ref (62), .ref (63), .null, .null])) := ⟨_, rfl⟩
  rw [← eh578]
  have hc579 : h577 (42) = some (.inr (5, [.int (0), .ref (43), .ref (44), .ref (45), .ref (46), .ref (47), .ref (48), .ref (49), .ref (50), .ref (51), .int (nI (0)), .int (nI (1)), .int (0), .ref (52), .ref (53), .ref (54), .ref (55), .ref (56), .ref (57), .ref (58), .ref (59), .ref (60), .ref (61), .ref (62), .ref (63), .null, .null])) := by rw [eh578]; exact q_up_s _ _ _
  have hc580 : h577 (43) = some (q_ai 240 (fun i => nI ((fun _ => 0) i))) := by rw [eh578, q_up_n _ (show (43 : Nat) ≠ 42 by omega)]; exact hc556
  have hc581 : h577 (44) = some (q_ai 240 (fun i => nI ((fun _ => 0) i))) := by rw [eh578, q_up_n _ (show (44 : Nat) ≠ 42 by omega)]; exact hc557
  have hc582 : h577 (45) = some (q_ai 240 (fun _ => 0)) := by rw [eh578, q_up_n _ (show (45 : Nat) ≠ 42 by omega)]; exact hc558
  have hc583 : h577 (46) = some (q_ai 240 (fun _ => 0)) := by rw [eh578, q_up_n _ (show (46 : Nat) ≠ 42 by omega)]; exact hc559
  have hc584 : h577 (47) = some (q_ai 3 (fun i => nI ((fun _ => 0) i))) := by rw [eh578, q_up_n _ (show (47 : Nat) ≠ 42 by omega)]; exact hc560
  have hc585 : h577 (48) = some (q_ai 3 (fun i => nI ((fun _ => 0) i))) := by rw [eh578, q_up_n _ (show (48 : Nat) ≠ 42 by omega)]; exact hc561
  have hc586 : h577 (49) = some (q_ai 3 (fun i => nI ((fun _ => 0) i))) := by rw [eh578, q_up_n _ (show (49 : Nat) ≠ 42 by omega)]; exact hc562
  have hc587 : h577 (50) = some (q_az 3 (fun i => bI ((fun _ => false) i))) := by rw [eh578, q_up_n _ (show (50 : Nat) ≠ 42 by omega)]; exact hc563
  have hc588 : h577 (51) = some (q_az 3 (fun i => bI ((fun _ => false) i))) := by rw [eh578, q_up_n _ (show (51 : Nat) ≠ 42 by omega)]; exact hc564
  have hc589 : h577 (52) = some (q_az 4 (fun i => bI ((fun _ => false) i))) := by rw [eh578, q_up_n _ (show (52 : Nat) ≠ 42 by omega)]; exact hc565
  have hc590 : h577 (53) = some (q_az 4 (fun i => bI ((fun _ => false) i))) := by rw [eh578, q_up_n _ (show (53 : Nat) ≠ 42 by omega)]; exact hc566
  have hc591 : h577 (54) = some (q_ai 4 (fun i => nI ((fun _ => 0) i))) := by rw [eh578, q_up_n _ (show (54 : Nat) ≠ 42 by omega)]; exact hc567
  have hc592 : h577 (55) = some (q_ai 4 (fun _ => 0)) := by rw [eh578, q_up_n _ (show (55 : Nat) ≠ 42 by omega)]; exact hc568
  have hc593 : h577 (56) = some (q_ai 4 (fun _ => 0)) := by rw [eh578, q_up_n _ (show (56 : Nat) ≠ 42 by omega)]; exact hc569
  have hc594 : h577 (57) = some (q_az 1036 (fun i => bI ((fun _ => false) i))) := by rw [eh578, q_up_n _ (show (57 : Nat) ≠ 42 by omega)]; exact hc570
  have hc595 : h577 (58) = some (q_az 1036 (fun i => bI ((fun _ => false) i))) := by rw [eh578, q_up_n _ (show (58 : Nat) ≠ 42 by omega)]; exact hc571
  have hc596 : h577 (59) = some (q_ai 32 (fun _ => 0)) := by rw [eh578, q_up_n _ (show (59 : Nat) ≠ 42 by omega)]; exact hc572
  have hc597 : h577 (60) = some (q_ai 4 (fun i => nI ((fun _ => 0) i))) := by rw [eh578, q_up_n _ (show (60 : Nat) ≠ 42 by omega)]; exact hc573
  have hc598 : h577 (61) = some (q_az 259 (fun i => bI ((fun _ => false) i))) := by rw [eh578, q_up_n _ (show (61 : Nat) ≠ 42 by omega)]; exact hc574
  have hc599 : h577 (62) = some (q_ai 259 (fun _ => 0)) := by rw [eh578, q_up_n _ (show (62 : Nat) ≠ 42 by omega)]; exact hc575
  have hc600 : h577 (63) = some (q_ai 259 (fun _ => 0)) := by rw [eh578, q_up_n _ (show (63 : Nat) ≠ 42 by omega)]; exact hc576
  refine e_aload_n (pc := 175) d_md_init_175 rfl ?_
  refine e_sipush (pc := 176) d_md_init_176 (v := (nI (259))) rfl ?_
  refine e_newI (pc := 179) (n' := 259) (cc' := 1) (ss' := 259) d_md_init_179 k_55 (nI_pos (by decide)) (nI_clamp (by decide)) (by decide) (by omega) (by omega) ?_
  obtain ⟨h601, eh602⟩ : ∃ x, x = q_up h577 (64) (q_ai 259 (fun _ => 0)) := ⟨_, rfl⟩
  refine q_Ev.hp (h1 := h601) eh602 ?_
  have hc603 : h601 (42) = some (.inr (5, [.int (0), .ref (43), .ref (44), .ref (45), .ref (46), .ref (47), .ref (48), .ref (49), .ref (50), .ref (51), .int (nI (0)), .int (nI (1)), .int (0), .ref (52), .ref (53), .ref (54), .ref (55), .ref (56), .ref (57), .ref (58), .ref (59), .ref (60), .ref (61), .ref (62), .ref (63), .null, .null])) := by rw [eh602, q_up_n _ (show (42 : Nat) ≠ 64 by omega)]; exact hc579
  have hc604 : h601 (43) = some (q_ai 240 (fun i => nI ((fun _ => 0) i))) := by rw [eh602, q_up_n _ (show (43 : Nat) ≠ 64 by omega)]; exact hc580
  have hc605 : h601 (44) = some (q_ai 240 (fun i => nI ((fun _ => 0) i))) := by rw [eh602, q_up_n _ (show (44 : Nat) ≠ 64 by omega)]; exact hc581
  have hc606 : h601 (45) = some (q_ai 240 (fun _ => 0)) := by rw [eh602, q_up_n _ (show (45 : Nat) ≠ 64 by omega)]; exact hc582
  have hc607 : h601 (46) = some (q_ai 240 (fun _ => 0)) := by rw [eh602, q_up_n _ (show (46 : Nat) ≠ 64 by omega)]; exact hc583
  have hc608 : h601 (47) = some (q_ai 3 (fun i => nI ((fun _ => 0) i))) := by rw [eh602, q_up_n _ (show (47 : Nat) ≠ 64 by omega)]; exact hc584
  have hc609 : h601 (48) = some (q_ai 3 (fun i => nI ((fun _ => 0) i))) := by rw [eh602, q_up_n _ (show (48 : Nat) ≠ 64 by omega)]; exact hc585
  have hc610 : h601 (49) = some (q_ai 3 (fun i => nI ((fun _ => 0) i))) := by rw [eh602, q_up_n _ (show (49 : Nat) ≠ 64 by omega)]; exact hc586
  have hc611 : h601 (50) = some (q_az 3 (fun i => bI ((fun _ => false) i))) := by rw [eh602, q_up_n _ (show (50 : Nat) ≠ 64 by omega)]; exact hc587
  have hc612 : h601 (51) = some (q_az 3 (fun i => bI ((fun _ => false) i))) := by rw [eh602, q_up_n _ (show (51 : Nat) ≠ 64 by omega)]; exact hc588
  have hc613 : h601 (52) = some (q_az 4 (fun i => bI ((fun _ => false) i))) := by rw [eh602, q_up_n _ (show (52 : Nat) ≠ 64 by omega)]; exact hc589
  have hc614 : h601 (53) = some (q_az 4 (fun i => bI ((fun _ => false) i))) := by rw [eh602, q_up_n _ (show (53 : Nat) ≠ 64 by omega)]; exact hc590
  have hc615 : h601 (54) = some (q_ai 4 (fun i => nI ((fun _ => 0) i))) := by rw [eh602, q_up_n _ (show (54 : Nat) ≠ 64 by omega)]; exact hc591
  have hc616 : h601 (55) = some (q_ai 4 (fun _ => 0)) := by rw [eh602, q_up_n _ (show (55 : Nat) ≠ 64 by omega)]; exact hc592
  have hc617 : h601 (56) = some (q_ai 4 (fun _ => 0)) := by rw [eh602, q_up_n _ (show (56 : Nat) ≠ 64 by omega)]; exact hc593
  have hc618 : h601 (57) = some (q_az 1036 (fun i => bI ((fun _ => false) i))) := by rw [eh602, q_up_n _ (show (57 : Nat) ≠ 64 by omega)]; exact hc594
  have hc619 : h601 (58) = some (q_az 1036 (fun i => bI ((fun _ => false) i))) := by rw [eh602, q_up_n _ (show (58 : Nat) ≠ 64 by omega)]; exact hc595
  have hc620 : h601 (59) = some (q_ai 32 (fun _ => 0)) := by rw [eh602, q_up_n _ (show (59 : Nat) ≠ 64 by omega)]; exact hc596
  have hc621 : h601 (60) = some (q_ai 4 (fun i => nI ((fun _ => 0) i))) := by rw [eh602, q_up_n _ (show (60 : Nat) ≠ 64 by omega)]; exact hc597
  have hc622 : h601 (61) = some (q_az 259 (fun i => bI ((fun _ => false) i))) := by rw [eh602, q_up_n _ (show (61 : Nat) ≠ 64 by omega)]; exact hc598
  have hc623 : h601 (62) = some (q_ai 259 (fun _ => 0)) := by rw [eh602, q_up_n _ (show (62 : Nat) ≠ 64 by omega)]; exact hc599
  have hc624 : h601 (63) = some (q_ai 259 (fun _ => 0)) := by rw [eh602, q_up_n _ (show (63 : Nat) ≠ 64 by omega)]; exact hc600
  have hc625 : h601 (64) = some (q_ai 259 (fun _ => 0)) := by rw [eh602]; exact q_up_s _ _ _
  show q_Ev l G m_md_init 1 14 1 259 181 [some (.ref (42)), none] [.ref (64), .ref (42)] h601 64 _
  refine e_putFE (pc := 181) d_md_init_181 (fs2 := [.int (0), .ref (43), .ref (44), .ref (45), .ref (46), .ref (47), .ref (48), .ref (49), .ref (50), .ref (51), .int (nI (0)), .int (nI (1)), .int (0), .ref (52), .ref (53), .ref (54), .ref (55), .ref (56), .ref (57), .ref (58), .ref (59), .ref (60), .ref (61), .ref (62), .ref (63), .ref (64), .null]) fl_md_78 rfl rfl hc603 (Nat.le_of_ble_eq_true rfl) (fun _ => rfl) (fun _ => rfl) rfl ?_
  obtain ⟨h626, eh627⟩ : ∃ x, x = q_up h601 (42) (.inr (5, [.int (0), .ref (43), .ref (44), .ref (45), .ref (46), .ref (47), .ref (48), .ref (49), .ref (50), .ref (51), .int (nI (0)), .int (nI (1)), .int (0), .ref (52), .ref (53), .ref (54), .ref (55), .ref (56), .ref (57), .ref (58), .ref (59), .ref (60), .ref (61), .ref (62), .ref (63), .ref (64), .null])) := ⟨_, rfl⟩
  rw [← eh627]
  have hc628 : h626 (42) = some (.inr (5, [.int (0), .ref (43), .ref (44), .ref (45), .ref (46), .ref (47), .ref (48), .ref (49), .ref (50), .ref (51), .int (nI (0)), .int (nI (1)), .int (0), .ref (52), .ref (53), .ref (54), .ref (55), .ref (56), .ref (57), .ref (58), .ref (59), .ref (60), .ref (61), .ref (62), .ref (63), .ref (64), .null])) := by rw [eh627]; exact q_up_s _ _ _
  have hc629 : h626 (43) = some (q_ai 240 (fun i => nI ((fun _ => 0) i))) := by rw [eh627, q_up_n _ (show (43 : Nat) ≠ 42 by omega)]; exact hc604
  have hc630 : h626 (44) = some (q_ai 240 (fun i => nI ((fun _ => 0) i))) := by rw [eh627, q_up_n _ (show (44 : Nat) ≠ 42 by omega)]; exact hc605
  have hc631 : h626 (45) = some (q_ai 240 (fun _ => 0)) := by rw [eh627, q_up_n _ (show (45 : Nat) ≠ 42 by omega)]; exact hc606
  have hc632 : h626 (46) = some (q_ai 240 (fun _ => 0)) := by rw [eh627, q_up_n _ (show (46 : Nat) ≠ 42 by omega)]; exact hc607
  have hc633 : h626 (47) = some (q_ai 3 (fun i => nI ((fun _ => 0) i))) := by rw [eh627, q_up_n _ (show (47 : Nat) ≠ 42 by omega)]; exact hc608
  have hc634 : h626 (48) = some (q_ai 3 (fun i => nI ((fun _ => 0) i))) := by rw [eh627, q_up_n _ (show (48 : Nat) ≠ 42 by omega)]; exact hc609
  have hc635 : h626 (49) = some (q_ai 3 (fun i => nI ((fun _ => 0) i))) := by rw [eh627, q_up_n _ (show (49 : Nat) ≠ 42 by omega)]; exact hc610
  have hc636 : h626 (50) = some (q_az 3 (fun i => bI ((fun _ => false) i))) := by rw [eh627, q_up_n _ (show (50 : Nat) ≠ 42 by omega)]; exact hc611
  have hc637 : h626 (51) = some (q_az 3 (fun i => bI ((fun _ => false) i))) := by rw [eh627, q_up_n _ (show (51 : Nat) ≠ 42 by omega)]; exact hc612
  have hc638 : h626 (52) = some (q_az 4 (fun i => bI ((fun _ => false) i))) := by rw [eh627, q_up_n _ (show (52 : Nat) ≠ 42 by omega)]; exact hc613
  have hc639 : h626 (53) = some (q_az 4 (fun i => bI ((fun _ => false) i))) := by rw [eh627, q_up_n _ (show (53 : Nat) ≠ 42 by omega)]; exact hc614
  have hc640 : h626 (54) = some (q_ai 4 (fun i => nI ((fun _ => 0) i))) := by rw [eh627, q_up_n _ (show (54 : Nat) ≠ 42 by omega)]; exact hc615
  have hc641 : h626 (55) = some (q_ai 4 (fun _ => 0)) := by rw [eh627, q_up_n _ (show (55 : Nat) ≠ 42 by omega)]; exact hc616
  have hc642 : h626 (56) = some (q_ai 4 (fun _ => 0)) := by rw [eh627, q_up_n _ (show (56 : Nat) ≠ 42 by omega)]; exact hc617
  have hc643 : h626 (57) = some (q_az 1036 (fun i => bI ((fun _ => false) i))) := by rw [eh627, q_up_n _ (show (57 : Nat) ≠ 42 by omega)]; exact hc618
  have hc644 : h626 (58) = some (q_az 1036 (fun i => bI ((fun _ => false) i))) := by rw [eh627, q_up_n _ (show (58 : Nat) ≠ 42 by omega)]; exact hc619
  have hc645 : h626 (59) = some (q_ai 32 (fun _ => 0)) := by rw [eh627, q_up_n _ (show (59 : Nat) ≠ 42 by omega)]; exact hc620
  have hc646 : h626 (60) = some (q_ai 4 (fun i => nI ((fun _ => 0) i))) := by rw [eh627, q_up_n _ (show (60 : Nat) ≠ 42 by omega)]; exact hc621
  have hc647 : h626 (61) = some (q_az 259 (fun i => bI ((fun _ => false) i))) := by rw [eh627, q_up_n _ (show (61 : Nat) ≠ 42 by omega)]; exact hc622
  have hc648 : h626 (62) = some (q_ai 259 (fun _ => 0)) := by rw [eh627, q_up_n _ (show (62 : Nat) ≠ 42 by omega)]; exact hc623
  have hc649 : h626 (63) = some (q_ai 259 (fun _ => 0)) := by rw [eh627, q_up_n _ (show (63 : Nat) ≠ 42 by omega)]; exact hc624
  have hc650 : h626 (64) = some (q_ai 259 (fun i => nI ((fun _ => 0) i))) := by rw [eh627, q_up_n _ (show (64 : Nat) ≠ 42 by omega)]; exact hc625
  refine e_aload_n (pc := 184) d_md_init_184 rfl ?_
  refine e_sipush (pc := 185) d_md_init_185 (v := (nI (259))) rfl ?_
  refine e_newI (pc := 188) (n' := 259) (cc' := 0) (ss' := 0) d_md_init_188 k_55 (nI_pos (by decide)) (nI_clamp (by decide)) (by decide) (by omega) (by omega) ?_
  obtain ⟨h651, eh652⟩ : ∃ x, x = q_up h626 (65) (q_ai 259 (fun _ => 0)) := ⟨_, rfl⟩
  refine q_Ev.hp (h1 := h651) eh652 ?_
  have hc653 : h651 (42) = some (.inr (5, [.int (0), .ref (43), .ref (44), .ref (45), .ref (46), .ref (47), .ref (48), .ref (49), .ref (50), .ref (51), .int (nI (0)), .int (nI (1)), .int (0), .ref (52), .ref (53), .ref (54), .ref (55), .ref (56), .ref (57), .ref (58), .ref (59), .ref (60), .ref (61), .ref (62), .ref (63), .ref (64), .null])) := by rw [eh652, q_up_n _ (show (42 : Nat) ≠ 65 by omega)]; exact hc628
  have hc654 : h651 (43) = some (q_ai 240 (fun i => nI ((fun _ => 0) i))) := by rw [eh652, q_up_n _ (show (43 : Nat) ≠ 65 by omega)]; exact hc629
  have hc655 : h651 (44) = some (q_ai 240 (fun i => nI ((fun _ => 0) i))) := by rw [eh652, q_up_n _ (show (44 : Nat) ≠ 65 by omega)]; exact hc630
  have hc656 : h651 (45) = some (q_ai 240 (fun _ => 0)) := by rw [eh652, q_up_n _ (show (45 : Nat) ≠ 65 by omega)]; exact hc631
  have hc657 : h651 (46) = some (q_ai 240 (fun _ => 0)) := by rw [eh652, q_up_n _ (show (46 : Nat) ≠ 65 by omega)]; exact hc632
  have hc658 : h651 (47) = some (q_ai 3 (fun i => nI ((fun _ => 0) i))) := by rw [eh652, q_up_n _ (show (47 : Nat) ≠ 65 by omega)]; exact hc633
  have hc659 : h651 (48) = some (q_ai 3 (fun i => nI ((fun _ => 0) i))) := by rw [eh652, q_up_n _ (show (48 : Nat) ≠ 65 by omega)]; exact hc634
  have hc660 : h651 (49) = some (q_ai 3 (fun i => nI ((fun _ => 0) i))) := by rw [eh652, q_up_n _ (show (49 : Nat) ≠ 65 by omega)]; exact hc635
  have hc661 : h651 (50) = some (q_az 3 (fun i => bI ((fun _ => false) i))) := by rw [eh652, q_up_n _ (show (50 : Nat) ≠ 65 by omega)]; exact hc636
  have hc662 : h651 (51) = some (q_az 3 (fun i => bI ((fun _ => false) i))) := by rw [eh652, q_up_n _ (show (51 : Nat) ≠ 65 by omega)]; exact hc637
  have hc663 : h651 (52) = some (q_az 4 (fun i => bI ((fun _ => false) i))) := by rw [eh652, q_up_n _ (show (52 : Nat) ≠ 65 by omega)]; exact hc638
  have hc664 : h651 (53) = some (q_az 4 (fun i => bI ((fun _ => false) i))) := by rw [eh652, q_up_n _ (show (53 : Nat) ≠ 65 by omega)]; exact hc639
  have hc665 : h651 (54) = some (q_ai 4 (fun i => nI ((fun _ => 0) i))) := by rw [eh652, q_up_n _ (show (54 : Nat) ≠ 65 by omega)]; exact hc640
  have hc666 : h651 (55) = some (q_ai 4 (fun _ => 0)) := by rw [eh652, q_up_n _ (show (55 : Nat) ≠ 65 by omega)]; exact hc641
  have hc667 : h651 (56) = some (q_ai 4 (fun _ => 0)) := by rw [eh652, q_up_n _ (show (56 : Nat) ≠ 65 by omega)]; exact hc642
  have hc668 : h651 (57) = some (q_az 1036 (fun i => bI ((fun _ => false) i))) := by rw [eh652, q_up_n _ (show (57 : Nat) ≠ 65 by omega)]; exact hc643
  have hc669 : h651 (58) = some (q_az 1036 (fun i => bI ((fun _ => false) i))) := by rw [eh652, q_up_n _ (show (58 : Nat) ≠ 65 by omega)]; exact hc644
  have hc670 : h651 (59) = some (q_ai 32 (fun _ => 0)) := by rw [eh652, q_up_n _ (show (59 : Nat) ≠ 65 by omega)]; exact hc645
  have hc671 : h651 (60) = some (q_ai 4 (fun i => nI ((fun _ => 0) i))) := by rw [eh652, q_up_n _ (show (60 : Nat) ≠ 65 by omega)]; exact hc646
  have hc672 : h651 (61) = some (q_az 259 (fun i => bI ((fun _ => false) i))) := by rw [eh652, q_up_n _ (show (61 : Nat) ≠ 65 by omega)]; exact hc647
  have hc673 : h651 (62) = some (q_ai 259 (fun _ => 0)) := by rw [eh652, q_up_n _ (show (62 : Nat) ≠ 65 by omega)]; exact hc648
  have hc674 : h651 (63) = some (q_ai 259 (fun _ => 0)) := by rw [eh652, q_up_n _ (show (63 : Nat) ≠ 65 by omega)]; exact hc649
  have hc675 : h651 (64) = some (q_ai 259 (fun i => nI ((fun _ => 0) i))) := by rw [eh652, q_up_n _ (show (64 : Nat) ≠ 65 by omega)]; exact hc650
  have hc676 : h651 (65) = some (q_ai 259 (fun _ => 0)) := by rw [eh652]; exact q_up_s _ _ _
  show q_Ev l G m_md_init 1 14 0 0 190 [some (.ref (42)), none] [.ref (65), .ref (42)] h651 65 _
  refine e_putFE (pc := 190) d_md_init_190 (fs2 := [.int (0), .ref (43), .ref (44), .ref (45), .ref (46), .ref (47), .ref (48), .ref (49), .ref (50), .ref (51), .int (nI (0)), .int (nI (1)), .int (0), .ref (52), .ref (53), .ref (54), .ref (55), .ref (56), .ref (57), .ref (58), .ref (59), .ref (60), .ref (61), .ref (62), .ref (63), .ref (64), .ref (65)]) fl_md_81 rfl rfl hc653 (Nat.le_of_ble_eq_true rfl) (fun _ => rfl) (fun _ => rfl) rfl ?_
  obtain ⟨h677, eh678⟩ : ∃ x, x = q_up h651 (42) (.inr (5, [.int (0), .ref (43), .ref (44), .ref (45), .ref (46), .ref (47), .ref (48), .ref (49), .ref (50), .ref (51), .int (nI (0)), .int (nI (1)), .int (0), .ref (52), .ref (53), .ref (54), .ref (55), .ref (56), .ref (57), .ref (58), .ref (59), .ref (60), .ref (61), .ref (62), .ref (63), .ref (64), .ref (65)])) := ⟨_, rfl⟩
  rw [← eh678]
  have hc679 : h677 (42) = some (.inr (5, [.int (0), .ref (43), .ref (44), .ref (45), .ref (46), .ref (47), .ref (48), .ref (49), .ref (50), .ref (51), .int (nI (0)), .int (nI (1)), .int (0), .ref (52), .ref (53), .ref (54), .ref (55), .ref (56), .ref (57), .ref (58), .ref (59), .ref (60), .ref (61), .ref (62), .ref (63), .ref (64), .ref (65)])) := by rw [eh678]; exact q_up_s _ _ _
  have hc680 : h677 (43) = some (q_ai 240 (fun i => nI ((fun _ => 0) i))) := by rw [eh678, q_up_n _ (show (43 : Nat) ≠ 42 by omega)]; exact hc654
  have hc681 : h677 (44) = some (q_ai 240 (fun i => nI ((fun _ => 0) i))) := by rw [eh678, q_up_n _ (show (44 : Nat) ≠ 42 by omega)]; exact hc655
  have hc682 : h677 (45) = some (q_ai 240 (fun _ => 0)) := by rw [eh678, q_up_n _ (show (45 : Nat) ≠ 42 by omega)]; exact hc656
  have hc683 : h677 (46) = some (q_ai 240 (fun _ => 0)) := by rw [eh678, q_up_n _ (show (46 : Nat) ≠ 42 by omega)]; exact hc657
  have hc684 : h677 (47) = some (q_ai 3 (fun i => nI ((fun _ => 0) i))) := by rw [eh678, q_up_n _ (show (47 : Nat) ≠ 42 by omega)]; exact hc658
  have hc685 : h677 (48) = some (q_ai 3 (fun i => nI ((fun _ => 0) i))) := by rw [eh678, q_up_n _ (show (48 : Nat) ≠ 42 by omega)]; exact hc659
  have hc686 : h677 (49) = some (q_ai 3 (fun i => nI ((fun _ => 0) i))) := by rw [eh678, q_up_n _ (show (49 : Nat) ≠ 42 by omega)]; exact hc660
  have hc687 : h677 (50) = some (q_az 3 (fun i => bI ((fun _ => false) i))) := by rw [eh678, q_up_n _ (show (50 : Nat) ≠ 42 by omega)]; exact hc661
  have hc688 : h677 (51) = some (q_az 3 (fun i => bI ((fun _ => false) i))) := by rw [eh678, q_up_n _ (show (51 : Nat) ≠ 42 by omega)]; exact hc662
  have hc689 : h677 (52) = some (q_az 4 (fun i => bI ((fun _ => false) i))) := by rw [eh678, q_up_n _ (show (52 : Nat) ≠ 42 by omega)]; exact hc663
  have hc690 : h677 (53) = some (q_az 4 (fun i => bI ((fun _ => false) i))) := by rw [eh678, q_up_n _ (show (53 : Nat) ≠ 42 by omega)]; exact hc664
  have hc691 : h677 (54) = some (q_ai 4 (fun i => nI ((fun _ => 0) i))) := by rw [eh678, q_up_n _ (show (54 : Nat) ≠ 42 by omega)]; exact hc665
  have hc692 : h677 (55) = some (q_ai 4 (fun _ => 0)) := by rw [eh678, q_up_n _ (show (55 : Nat) ≠ 42 by omega)]; exact hc666
  have hc693 : h677 (56) = some (q_ai 4 (fun _ => 0)) := by rw [eh678, q_up_n _ (show (56 : Nat) ≠ 42 by omega)]; exact hc667
  have hc694 : h677 (57) = some (q_az 1036 (fun i => bI ((fun _ => false) i))) := by rw [eh678, q_up_n _ (show (57 : Nat) ≠ 42 by omega)]; exact hc668
  have hc695 : h677 (58) = some (q_az 1036 (fun i => bI ((fun _ => false) i))) := by rw [eh678, q_up_n _ (show (58 : Nat) ≠ 42 by omega)]; exact hc669
  have hc696 : h677 (59) = some (q_ai 32 (fun _ => 0)) := by rw [eh678, q_up_n _ (show (59 : Nat) ≠ 42 by omega)]; exact hc670
  have hc697 : h677 (60) = some (q_ai 4 (fun i => nI ((fun _ => 0) i))) := by rw [eh678, q_up_n _ (show (60 : Nat) ≠ 42 by omega)]; exact hc671
  have hc698 : h677 (61) = some (q_az 259 (fun i => bI ((fun _ => false) i))) := by rw [eh678, q_up_n _ (show (61 : Nat) ≠ 42 by omega)]; exact hc672
  have hc699 : h677 (62) = some (q_ai 259 (fun _ => 0)) := by rw [eh678, q_up_n _ (show (62 : Nat) ≠ 42 by omega)]; exact hc673
  have hc700 : h677 (63) = some (q_ai 259 (fun _ => 0)) := by rw [eh678, q_up_n _ (show (63 : Nat) ≠ 42 by omega)]; exact hc674
  have hc701 : h677 (64) = some (q_ai 259 (fun i => nI ((fun _ => 0) i))) := by rw [eh678, q_up_n _ (show (64 : Nat) ≠ 42 by omega)]; exact hc675
  have hc702 : h677 (65) = some (q_ai 259 (fun _ => 0)) := by rw [eh678, q_up_n _ (show (65 : Nat) ≠ 42 by omega)]; exact hc676
  refine e_iconst (pc := 193) d_md_init_193 (v := (nI (0))) rfl ?_
  refine e_istore_n (pc := 194) d_md_init_194 (by decide) ?_
  show q_Ev l G m_md_init 1 14 0 0 195 [some (.ref (42)), some (.int (nI (0)))] [] h677 65 _
  refine e_iload_n (pc := 195) d_md_init_195 rfl ?_
  refine e_iconst (pc := 196) d_md_init_196 (v := (nI (3))) rfl ?_
  refine e_icmp_geN (pc := 197) (tgt := 213) d_md_init_197 (by decide) (by decide) (by decide) (fun c => absurd c (by decide)) (fun _ => ?_)
  refine e_aload_n (pc := 200) d_md_init_200 rfl ?_
  refine e_get (pc := 201) d_md_init_201 fl_md_28 hc679 rfl ?_
  refine e_iload_n (pc := 204) d_md_init_204 rfl ?_
  refine e_iconst (pc := 205) d_md_init_205 (v := (nI (1))) rfl ?_
  refine e_nastN (pc := 206) d_md_init_206 (f := fun _ => 0) hc686 (by decide) (by decide) ?_
  obtain ⟨h703, eh704⟩ : ∃ x, x = q_up h677 (49) (q_ai 3 (fun i => nI (((va_up (fun _ => 0) (0) (1))) i))) := ⟨_, rfl⟩
  rw [← eh704]
  have hc705 : h703 (42) = some (.inr (5, [.int (0), .ref (43), .ref (44), .ref (45), .ref (46), .ref (47), .ref (48), .ref (49), .ref (50), .ref (51), .int (nI (0)), .int (nI (1)), .int (0), .ref (52), .ref (53), .ref (54), .ref (55), .ref (56), .ref (57), .ref (58), .ref (59), .ref (60), .ref (61), .ref (62), .ref (63), .ref (64), .ref (65)])) := by rw [eh704, q_up_n _ (show (42 : Nat) ≠ 49 by omega)]; exact hc679
  have hc706 : h703 (43) = some (q_ai 240 (fun i => nI ((fun _ => 0) i))) := by rw [eh704, q_up_n _ (show (43 : Nat) ≠ 49 by omega)]; exact hc680
  have hc707 : h703 (44) = some (q_ai 240 (fun i => nI ((fun _ => 0) i))) := by rw [eh704, q_up_n _ (show (44 : Nat) ≠ 49 by omega)]; exact hc681
  have hc708 : h703 (45) = some (q_ai 240 (fun _ => 0)) := by rw [eh704, q_up_n _ (show (45 : Nat) ≠ 49 by omega)]; exact hc682
  have hc709 : h703 (46) = some (q_ai 240 (fun _ => 0)) := by rw [eh704, q_up_n _ (show (46 : Nat) ≠ 49 by omega)]; exact hc683
  have hc710 : h703 (47) = some (q_ai 3 (fun i => nI ((fun _ => 0) i))) := by rw [eh704, q_up_n _ (show (47 : Nat) ≠ 49 by omega)]; exact hc684
  have hc711 : h703 (48) = some (q_ai 3 (fun i => nI ((fun _ => 0) i))) := by rw [eh704, q_up_n _ (show (48 : Nat) ≠ 49 by omega)]; exact hc685
  have hc712 : h703 (49) = some (q_ai 3 (fun i => nI (((va_up (fun _ => 0) (0) (1))) i))) := by rw [eh704]; exact q_up_s _ _ _
  have hc713 : h703 (50) = some (q_az 3 (fun i => bI ((fun _ => false) i))) := by rw [eh704, q_up_n _ (show (50 : Nat) ≠ 49 by omega)]; exact hc687
  have hc714 : h703 (51) = some (q_az 3 (fun i => bI ((fun _ => false) i))) := by rw [eh704, q_up_n _ (show (51 : Nat) ≠ 49 by omega)]; exact hc688
  have hc715 : h703 (52) = some (q_az 4 (fun i => bI ((fun _ => false) i))) := by rw [eh704, q_up_n _ (show (52 : Nat) ≠ 49 by omega)]; exact hc689
  have hc716 : h703 (53) = some (q_az 4 (fun i => bI ((fun _ => false) i))) := by rw [eh704, q_up_n _ (show (53 : Nat) ≠ 49 by omega)]; exact hc690
  have hc717 : h703 (54) = some (q_ai 4 (fun i => nI ((fun _ => 0) i))) := by rw [eh704, q_up_n _ (show (54 : Nat) ≠ 49 by omega)]; exact hc691
  have hc718 : h703 (55) = some (q_ai 4 (fun _ => 0)) := by rw [eh704, q_up_n _ (show (55 : Nat) ≠ 49 by omega)]; exact hc692
  have hc719 : h703 (56) = some (q_ai 4 (fun _ => 0)) := by rw [eh704, q_up_n _ (show (56 : Nat) ≠ 49 by omega)]; exact hc693
  have hc720 : h703 (57) = some (q_az 1036 (fun i => bI ((fun _ => false) i))) := by rw [eh704, q_up_n _ (show (57 : Nat) ≠ 49 by omega)]; exact hc694
  have hc721 : h703 (58) = some (q_az 1036 (fun i => bI ((fun _ => false) i))) := by rw [eh704, q_up_n _ (show (58 : Nat) ≠ 49 by omega)]; exact hc695
  have hc722 : h703 (59) = some (q_ai 32 (fun _ => 0)) := by rw [eh704, q_up_n _ (show (59 : Nat) ≠ 49 by omega)]; exact hc696
  have hc723 : h703 (60) = some (q_ai 4 (fun i => nI ((fun _ => 0) i))) := by rw [eh704, q_up_n _ (show (60 : Nat) ≠ 49 by omega)]; exact hc697
  have hc724 : h703 (61) = some (q_az 259 (fun i => bI ((fun _ => false) i))) := by rw [eh704, q_up_n _ (show (61 : Nat) ≠ 49 by omega)]; exact hc698
  have hc725 : h703 (62) = some (q_ai 259 (fun _ => 0)) := by rw [eh704, q_up_n _ (show (62 : Nat) ≠ 49 by omega)]; exact hc699
  have hc726 : h703 (63) = some (q_ai 259 (fun _ => 0)) := by rw [eh704, q_up_n _ (show (63 : Nat) ≠ 49 by omega)]; exact hc700
  have hc727 : h703 (64) = some (q_ai 259 (fun i => nI ((fun _ => 0) i))) := by rw [eh704, q_up_n _ (show (64 : Nat) ≠ 49 by omega)]; exact hc701
  have hc728 : h703 (65) = some (q_ai 259 (fun _ => 0)) := by rw [eh704, q_up_n _ (show (65 : Nat) ≠ 49 by omega)]; exact hc702
  refine e_iincN (pc := 207) d_md_init_207 (a := 0) (b := 1) rfl rfl (by decide) ?_
  refine e_goto (pc := 210) (tgt := 195) d_md_init_210 (by decide) ?_
  show q_Ev l G m_md_init 1 14 0 0 195 [some (.ref (42)), some (.int (nI (1)))] [] h703 65 _
  refine e_iload_n (pc := 195) d_md_init_195 rfl ?_
  refine e_iconst (pc := 196) d_md_init_196 (v := (nI (3))) rfl ?_
  refine e_icmp_geN (pc := 197) (tgt := 213) d_md_init_197 (by decide) (by decide) (by decide) (fun c => absurd c (by decide)) (fun _ => ?_)
  refine e_aload_n (pc := 200) d_md_init_200 rfl ?_
  refine e_get (pc := 201) d_md_init_201 fl_md_28 hc705 rfl ?_
  refine e_iload_n (pc := 204) d_md_init_204 rfl ?_
  refine e_iconst (pc := 205) d_md_init_205 (v := (nI (1))) rfl ?_
  refine e_nastN (pc := 206) d_md_init_206 (f := (va_up (fun _ => 0) (0) (1))) hc712 (by decide) (by decide) ?_
  obtain ⟨h729, eh730⟩ : ∃ x, x = q_up h703 (49) (q_ai 3 (fun i => nI (((va_up ((va_up (fun _ => 0) (0) (1))) (1) (1))) i))) := ⟨_, rfl⟩
  rw [← eh730]
  have hc731 : h729 (42) = some (.inr (5, [.int (0), .ref (43), .ref (44), .ref (45), .ref (46), .ref (47), .ref (48), .ref (49), .ref (50), .ref (51), .int (nI (0)), .int (nI (1)), .int (0), .ref (52), .ref (53), .ref (54), .ref (55), .ref (56), .ref (57), .ref (58), .ref (59), .ref (60), .ref (61), .ref (62), .ref (63), .ref (64), .ref (65)])) := by rw [eh730, q_up_n _ (show (42 : Nat) ≠ 49 by omega)]; exact hc705
  have hc732 : h729 (43) = some (q_ai 240 (fun i => nI ((fun _ => 0) i))) := by rw [eh730, q_up_n _ (show (43 : Nat) ≠ 49 by omega)]; exact hc706
  have hc733 : h729 (44) = some (q_ai 240 (fun i => nI ((fun _ => 0) i))) := by rw [eh730, q_up_n _ (show (44 : Nat) ≠ 49 by omega)]; exact hc707
  have hc734 : h729 (45) = some (q_ai 240 (fun _ => 0)) := by rw [eh730, q_up_n _ (show (45 : Nat) ≠ 49 by omega)]; exact hc708
  have hc735 : h729 (46) = some (q_ai 240 (fun _ => 0)) := by rw [eh730, q_up_n _ (show (46 : Nat) ≠ 49 by omega)]; exact hc709
  have hc736 : h729 (47) = some (q_ai 3 (fun i => nI ((fun _ => 0) i))) := by rw [eh730, q_up_n _ (show (47 : Nat) ≠ 49 by omega)]; exact hc710
  have hc737 : h729 (48) = some (q_ai 3 (fun i => nI ((fun _ => 0) i))) := by rw [eh730, q_up_n _ (show (48 : Nat) ≠ 49 by omega)]; exact hc711
  have hc738 : h729 (49) = some (q_ai 3 (fun i => nI (((va_up ((va_up (fun _ => 0) (0) (1))) (1) (1))) i))) := by rw [eh730]; exact q_up_s _ _ _
  have hc739 : h729 (50) = some (q_az 3 (fun i => bI ((fun _ => false) i))) := by rw [eh730, q_up_n _ (show (50 : Nat) ≠ 49 by omega)]; exact hc713
  have hc740 : h729 (51) = some (q_az 3 (fun i => bI ((fun _ => false) i))) := by rw [eh730, q_up_n _ (show (51 : Nat) ≠ 49 by omega)]; exact hc714
  have hc741 : h729 (52) = some (q_az 4 (fun i => bI ((fun _ => false) i))) := by rw [eh730, q_up_n _ (show (52 : Nat) ≠ 49 by omega)]; exact hc715
  have hc742 : h729 (53) = some (q_az 4 (fun i => bI ((fun _ => false) i))) := by rw [eh730, q_up_n _ (show (53 : Nat) ≠ 49 by omega)]; exact hc716
  have hc743 : h729 (54) = some (q_ai 4 (fun i => nI ((fun _ => 0) i))) := by rw [eh730, q_up_n _ (show (54 : Nat) ≠ 49 by omega)]; exact hc717
  have hc744 : h729 (55) = some (q_ai 4 (fun _ => 0)) := by rw [eh730, q_up_n _ (show (55 : Nat) ≠ 49 by omega)]; exact hc718
  have hc745 : h729 (56) = some (q_ai 4 (fun _ => 0)) := by rw [eh730, q_up_n _ (show (56 : Nat) ≠ 49 by omega)]; exact hc719
  have hc746 : h729 (57) = some (q_az 1036 (fun i => bI ((fun _ => false) i))) := by rw [eh730, q_up_n _ (show (57 : Nat) ≠ 49 by omega)]; exact hc720
  have hc747 : h729 (58) = some (q_az 1036 (fun i => bI ((fun _ => false) i))) := by rw [eh730, q_up_n _ (show (58 : Nat) ≠ 49 by omega)]; exact hc721
  have hc748 : h729 (59) = some (q_ai 32 (fun _ => 0)) := by rw [eh730, q_up_n _ (show (59 : Nat) ≠ 49 by omega)]; exact hc722
  have hc749 : h729 (60) = some (q_ai 4 (fun i => nI ((fun _ => 0) i))) := by rw [eh730, q_up_n _ (show (60 : Nat) ≠ 49 by omega)]; exact hc723
  have hc750 : h729 (61) = some (q_az 259 (fun i => bI ((fun _ => false) i))) := by rw [eh730, q_up_n _ (show (61 : Nat) ≠ 49 by omega)]; exact hc724
  have hc751 : h729 (62) = some (q_ai 259 (fun _ => 0)) := by rw [eh730, q_up_n _ (show (62 : Nat) ≠ 49 by omega)]; exact hc725
  have hc752 : h729 (63) = some (q_ai 259 (fun _ => 0)) := by rw [eh730, q_up_n _ (show (63 : Nat) ≠ 49 by omega)]; exact hc726
  have hc753 : h729 (64) = some (q_ai 259 (fun i => nI ((fun _ => 0) i))) := by rw [eh730, q_up_n _ (show (64 : Nat) ≠ 49 by omega)]; exact hc727
  have hc754 : h729 (65) = some (q_ai 259 (fun _ => 0)) := by rw [eh730, q_up_n _ (show (65 : Nat) ≠ 49 by omega)]; exact hc728
  refine e_iincN (pc := 207) d_md_init_207 (a := 1) (b := 1) rfl rfl (by decide) ?_
  refine e_goto (pc := 210) (tgt := 195) d_md_init_210 (by decide) ?_
  show q_Ev l G m_md_init 1 14 0 0 195 [some (.ref (42)), some (.int (nI (2)))] [] h729 65 _
  refine e_iload_n (pc := 195) d_md_init_195 rfl ?_
  refine e_iconst (pc := 196) d_md_init_196 (v := (nI (3))) rfl ?_
  refine e_icmp_geN (pc := 197) (tgt := 213) d_md_init_197 (by decide) (by decide) (by decide) (fun c => absurd c (by decide)) (fun _ => ?_)
  refine e_aload_n (pc := 200) d_md_init_200 rfl ?_
  refine e_get (pc := 201) d_md_init_201 fl_md_28 hc731 rfl ?_
  refine e_iload_n (pc := 204) d_md_init_204 rfl ?_
  refine e_iconst (pc := 205) d_md_init_205 (v := (nI (1))) rfl ?_
  refine e_nastN (pc := 206) d_md_init_206 (f := (va_up ((va_up (fun _ => 0) (0) (1))) (1) (1))) hc738 (by decide) (by decide) ?_
  obtain ⟨h755, eh756⟩ : ∃ x, x = q_up h729 (49) (q_ai 3 (fun i => nI (((va_up ((va_up ((va_up (fun _ => 0) (0) (1))) (1) (1))) (2) (1))) i))) := ⟨_, rfl⟩
  rw [← eh756]
  have hc757 : h755 (42) = some (.inr (5, [.int (0), .ref (43), .ref (44), .ref (45), .ref (46), .ref (47), .ref (48), .ref (49), .ref (50), .ref (51), .int (nI (0)), .int (nI (1)), .int (0), .ref (52), .ref (53), .ref (54), .ref (55), .ref (56), .ref (57), .ref (58), .ref (59), .ref (60), .ref (61), .ref (62), .ref (63), .ref (64), .ref (65)])) := by rw [eh756, q_up_n _ (show (42 : Nat) ≠ 49 by omega)]; exact hc731
  have hc758 : h755 (43) = some (q_ai 240 (fun i => nI ((fun _ => 0) i))) := by rw [eh756, q_up_n _ (show (43 : Nat) ≠ 49 by omega)]; exact hc732
  have hc759 : h755 (44) = some (q_ai 240 (fun i => nI ((fun _ => 0) i))) := by rw [eh756, q_up_n _ (show (44 : Nat) ≠ 49 by omega)]; exact hc733
  have hc760 : h755 (45) = some (q_ai 240 (fun _ => 0)) := by rw [eh756, q_up_n _ (show (45 : Nat) ≠ 49 by omega)]; exact hc734
  have hc761 : h755 (46) = some (q_ai 240 (fun _ => 0)) := by rw [eh756, q_up_n _ (show (46 : Nat) ≠ 49 by omega)]; exact hc735
  have hc762 : h755 (47) = some (q_ai 3 (fun i => nI ((fun _ => 0) i))) := by rw [eh756, q_up_n _ (show (47 : Nat) ≠ 49 by omega)]; exact hc736
  have hc763 : h755 (48) = some (q_ai 3 (fun i => nI ((fun _ => 0) i))) := by rw [eh756, q_up_n _ (show (48 : Nat) ≠ 49 by omega)]; exact hc737
  have hc764 : h755 (49) = some (q_ai 3 (fun i => nI (((va_up ((va_up ((va_up (fun _ => 0) (0) (1))) (1) (1))) (2) (1))) i))) := by rw [eh756]; exact q_up_s _ _ _
  have hc765 : h755 (50) = some (q_az 3 (fun i => bI ((fun _ => false) i))) := by rw [eh756, q_up_n _ (show (50 : Nat) ≠ 49 by omega)]; exact hc739
  have hc766 : h755 (51) = some (q_az 3 (fun i => bI ((fun _ => false) i))) := by rw [eh756, q_up_n _ (show (51 : Nat) ≠ 49 by omega)]; exact hc740
  have hc767 : h755 (52) = some (q_az 4 (fun i => bI ((fun _ => false) i))) := by rw [eh756, q_up_n _ (show (52 : Nat) ≠ 49 by omega)]; exact hc741
  have hc768 : h755 (53) = some (q_az 4 (fun i => bI ((fun _ => false) i))) := by rw [eh756, q_up_n _ (show (53 : Nat) ≠ 49 by omega)]; exact hc742
  have hc769 : h755 (54) = some (q_ai 4 (fun i => nI ((fun _ => 0) i))) := by rw [eh756, q_up_n _ (show (54 : Nat) ≠ 49 by omega)]; exact hc743
  have hc770 : h755 (55) = some (q_ai 4 (fun _ => 0)) := by rw [eh756, q_up_n _ (show (55 : Nat) ≠ 49 by omega)]; exact hc744
  have hc771 : h755 (56) = some (q_ai 4 (fun _ => 0)) := by rw [eh756, q_up_n _ (show (56 : Nat) ≠ 49 by omega)]; exact hc745
  have hc772 : h755 (57) = some (q_az 1036 (fun i => bI ((fun _ => false) i))) := by rw [eh756, q_up_n _ (show (57 : Nat) ≠ 49 by omega)]; exact hc746
  have hc773 : h755 (58) = some (q_az 1036 (fun i => bI ((fun _ => false) i))) := by rw [eh756, q_up_n _ (show (58 : Nat) ≠ 49 by omega)]; exact hc747
  have hc774 : h755 (59) = some (q_ai 32 (fun _ => 0)) := by rw [eh756, q_up_n _ (show (59 : Nat) ≠ 49 by omega)]; exact hc748
  have hc775 : h755 (60) = some (q_ai 4 (fun i => nI ((fun _ => 0) i))) := by rw [eh756, q_up_n _ (show (60 : Nat) ≠ 49 by omega)]; exact hc749
  have hc776 : h755 (61) = some (q_az 259 (fun i => bI ((fun _ => false) i))) := by rw [eh756, q_up_n _ (show (61 : Nat) ≠ 49 by omega)]; exact hc750
  have hc777 : h755 (62) = some (q_ai 259 (fun _ => 0)) := by rw [eh756, q_up_n _ (show (62 : Nat) ≠ 49 by omega)]; exact hc751
  have hc778 : h755 (63) = some (q_ai 259 (fun _ => 0)) := by rw [eh756, q_up_n _ (show (63 : Nat) ≠ 49 by omega)]; exact hc752
  have hc779 : h755 (64) = some (q_ai 259 (fun i => nI ((fun _ => 0) i))) := by rw [eh756, q_up_n _ (show (64 : Nat) ≠ 49 by omega)]; exact hc753
  have hc780 : h755 (65) = some (q_ai 259 (fun _ => 0)) := by rw [eh756, q_up_n _ (show (65 : Nat) ≠ 49 by omega)]; exact hc754
  refine e_iincN (pc := 207) d_md_init_207 (a := 2) (b := 1) rfl rfl (by decide) ?_
  refine e_goto (pc := 210) (tgt := 195) d_md_init_210 (by decide) ?_
  show q_Ev l G m_md_init 1 14 0 0 195 [some (.ref (42)), some (.int (nI (3)))] [] h755 65 _
  refine e_iload_n (pc := 195) d_md_init_195 rfl ?_
  refine e_iconst (pc := 196) d_md_init_196 (v := (nI (3))) rfl ?_
  refine e_icmp_geN (pc := 197) (tgt := 213) d_md_init_197 (by decide) (by decide) (by decide) (fun _ => ?_) (fun c => absurd c (by decide))
  exact e_vret (pc := 213) d_md_init_213 rfl (⟨rfl, rfl, funext (md_of (M := M00) hc757 hc758 hc759 hc760 hc761 hc762 hc763 hc764 hc765 hc766 hc767 hc768 hc769 hc770 hc771 hc772 hc773 hc774 hc775 hc776 hc777 hc778 hc779 hc780), fun a ha => by rw [eh756, q_up_n _ (by omega), eh730, q_up_n _ (by omega), eh704, q_up_n _ (by omega), eh678, q_up_n _ (by omega), eh652, q_up_n _ (by omega), eh627, q_up_n _ (by omega), eh602, q_up_n _ (by omega), eh578, q_up_n _ (by omega), eh554, q_up_n _ (by omega), eh531, q_up_n _ (by omega), eh508, q_up_n _ (by omega), eh486, q_up_n _ (by omega), eh464, q_up_n _ (by omega), eh443, q_up_n _ (by omega), eh422, q_up_n _ (by omega), eh402, q_up_n _ (by omega), eh382, q_up_n _ (by omega), eh363, q_up_n _ (by omega), eh344, q_up_n _ (by omega), eh326, q_up_n _ (by omega), eh308, q_up_n _ (by omega), eh291, q_up_n _ (by omega), eh274, q_up_n _ (by omega), eh258, q_up_n _ (by omega), eh242, q_up_n _ (by omega), eh227, q_up_n _ (by omega), eh212, q_up_n _ (by omega), eh198, q_up_n _ (by omega), eh184, q_up_n _ (by omega), eh171, q_up_n _ (by omega), eh158, q_up_n _ (by omega), eh146, q_up_n _ (by omega), eh134, q_up_n _ (by omega), eh122, q_up_n _ (by omega), eh111, q_up_n _ (by omega), eh100, q_up_n _ (by omega), eh90, q_up_n _ (by omega), eh80, q_up_n _ (by omega), eh71, q_up_n _ (by omega), eh62, q_up_n _ (by omega), eh54, q_up_n _ (by omega), eh46, q_up_n _ (by omega), eh39, q_up_n _ (by omega), eh32, q_up_n _ (by omega), eh26, q_up_n _ (by omega), eh20, q_up_n _ (by omega), eh15, q_up_n _ (by omega), eh10, q_up_n _ (by omega), eh6, q_up_n _ (by omega), eh2, q_up_n _ (by omega)]⟩)
