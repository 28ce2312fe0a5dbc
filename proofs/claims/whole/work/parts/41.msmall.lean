/-! THE MODEL: its small methods -/
def m_fit (M : mR) (i : Nat) : Bool := !(M.2.2.1.2.2.2.1 i) && !(M.2.2.1.2.2.2.2 i)
def m_lk (M : mR) (i : Nat) : Bool := match M.1.2.1 with
  | none => false
  | some k => m_fit M k && m_fit M i
def m_qr (M : mR) : Bool := decide (1 < cntB (m_lk M) 3)
def m_ok (M : mR) : Prop := ∀ k, M.1.2.1 = some k → k < 3
def m_cn (M : mR) (j : Nat) : Bool := M.2.2.2.1.1 j && !(M.2.2.1.2.2.2.1 (M.2.2.2.1.2.2.1 j))
def m_rc (M : mR) (j : Nat) : Bool := m_cn M j && (m_lk M (M.2.2.2.1.2.2.1 j) || decide (M.1.2.1 = some (M.2.2.2.1.2.2.1 j)))
theorem ldI_lt0 {o : Option Nat} (h : ∀ i, o = some i → i < 3) : ldI o < 0 ↔ o = none := by
  cases o with
  | none => exact ⟨fun _ => rfl, fun _ => by decide⟩
  | some i =>
    have := h i rfl
    refine ⟨fun z => ?_, fun z => nomatch z⟩
    rcases (by omega : i = 0 ∨ i = 1 ∨ i = 2) with rfl | rfl | rfl <;> exact absurd z (by decide)
def thK (th : Nat → Bool) (k : Nat) : Nat → Bool := fun q => if q < k then decide (q = 0) else th q
theorem thK_0 (th : Nat → Bool) : thK th 0 = th := by funext q; simp [thK]
theorem thK_s (th : Nat → Bool) (k : Nat) (b : Bool) (hb : b = decide (k = 0)) : va_up (thK th k) k b = thK th (k + 1) := by
  funext q
  by_cases c : q = k
  · subst c; simp [va_up, thK, hb]
  · have : q < k + 1 ↔ q < k := by omega
    simp [va_up, thK, c, this]
def fgK (f : Nat → Bool) (s k : Nat) : Nat → Bool := fun a => if 259 * s ≤ a ∧ a < 259 * s + k then false else f a
theorem fgK_0 (f : Nat → Bool) (s : Nat) : fgK f s 0 = f := by
  funext a
  unfold fgK
  rw [if_neg (by omega)]
theorem fgK_s (f : Nat → Bool) (s k : Nat) : va_up (fgK f s k) (259 * s + k) false = fgK f s (k + 1) := by
  funext a
  by_cases c : a = 259 * s + k
  · subst c; simp [va_up, fgK]
  · have : (259 * s ≤ a ∧ a < 259 * s + (k + 1)) ↔ (259 * s ≤ a ∧ a < 259 * s + k) := by omega
    simp [va_up, fgK, c, this]
set_option maxHeartbeats 4000000 in
set_option maxRecDepth 100000 in
theorem c_md_thrown {l : Launch} {G : q_G} (htr : l.stackTraces = false) {h : q_H} {N : Nat} {M : mR}  : q_Met l G m_md_thrown 0 0 0 0 [.ref (42)] (md_put h M) N (q_Id (some (.int M.1.1)) (md_put h M) N) := by
  refine q_Met.mk htr (by decide +kernel) rfl (List.forall_mem_cons.mpr ⟨rfl, fun _ h => nomatch h⟩) (Nat.le_of_ble_eq_true rfl) ?_
  refine e_aload_n (pc := 0) d_md_thrown_0 rfl ?_
  refine e_get (pc := 1) d_md_thrown_1 fl_md_84 md_g42 rfl ?_
  exact e_iret (pc := 4) d_md_thrown_4 rfl (⟨rfl, rfl, rfl⟩)
set_option maxHeartbeats 4000000 in
set_option maxRecDepth 100000 in
theorem c_md_fail {l : Launch} {G : q_G} (htr : l.stackTraces = false) {h : q_H} {N : Nat} {M : mR} {c : Int32} : q_Met l G m_md_fail 0 0 0 0 [.ref (42), .int (c)] (md_put h M) N (q_To (some (.int (nI 0))) (md_put h ((c, (M.1.2.1), (M.1.2.2.1), (M.1.2.2.2)), ((M.2.1.1), (M.2.1.2.1), (M.2.1.2.2.1), (M.2.1.2.2.2)), ((M.2.2.1.1), (M.2.2.1.2.1), (M.2.2.1.2.2.1), (M.2.2.1.2.2.2.1), (M.2.2.1.2.2.2.2)), ((M.2.2.2.1.1), (M.2.2.2.1.2.1), (M.2.2.2.1.2.2.1), (M.2.2.2.1.2.2.2.1), (M.2.2.2.1.2.2.2.2)), ((M.2.2.2.2.1.1), (M.2.2.2.2.1.2.1), (M.2.2.2.2.1.2.2.1), (M.2.2.2.2.1.2.2.2)), ((M.2.2.2.2.2.1), (M.2.2.2.2.2.2.1), (M.2.2.2.2.2.2.2.1), (M.2.2.2.2.2.2.2.2.1), (M.2.2.2.2.2.2.2.2.2)))) N) := by
  refine q_Met.mk htr (by decide +kernel) rfl (List.forall_mem_cons.mpr ⟨rfl, List.forall_mem_cons.mpr ⟨rfl, fun _ h => nomatch h⟩⟩) (Nat.le_of_ble_eq_true rfl) ?_
  refine e_aload_n (pc := 0) d_md_fail_0 rfl ?_
  refine e_iload_n (pc := 1) d_md_fail_1 rfl ?_
  refine e_putE (pc := 2) d_md_fail_2 (fs2 := [.int (c), .ref (43), .ref (44), .ref (45), .ref (46), .ref (47), .ref (48), .ref (49), .ref (50), .ref (51), .int (ldI (M.1.2.1)), .int (nI ((M.1.2.2.1))), .int ((M.1.2.2.2)), .ref (52), .ref (53), .ref (54), .ref (55), .ref (56), .ref (57), .ref (58), .ref (59), .ref (60), .ref (61), .ref (62), .ref (63), .ref (64), .ref (65)]) fl_md_84 md_g42 (Nat.le_of_ble_eq_true rfl) (fun _ => rfl) (fun _ => rfl) rfl ?_
  rw [md_u42 (ld := (M.1.2.1))]
  show q_Ev l G m_md_fail 0 0 0 0 5 [some (.ref (42)), some (.int (c))] [] (md_put h (((c), (M.1.2.1), ((M.1.2.2.1)), ((M.1.2.2.2))), ((M.2.1.1), (M.2.1.2.1), (M.2.1.2.2.1), (M.2.1.2.2.2)), ((M.2.2.1.1), (M.2.2.1.2.1), (M.2.2.1.2.2.1), (M.2.2.1.2.2.2.1), (M.2.2.1.2.2.2.2)), ((M.2.2.2.1.1), (M.2.2.2.1.2.1), (M.2.2.2.1.2.2.1), (M.2.2.2.1.2.2.2.1), (M.2.2.2.1.2.2.2.2)), ((M.2.2.2.2.1.1), (M.2.2.2.2.1.2.1), (M.2.2.2.2.1.2.2.1), (M.2.2.2.2.1.2.2.2)), ((M.2.2.2.2.2.1), (M.2.2.2.2.2.2.1), (M.2.2.2.2.2.2.2.1), (M.2.2.2.2.2.2.2.2.1), (M.2.2.2.2.2.2.2.2.2)))) N _
  refine e_iconst (pc := 5) d_md_fail_5 (v := (nI (0))) rfl ?_
  exact e_iret (pc := 6) d_md_fail_6 rfl (⟨rfl, rfl, rfl⟩)
set_option maxHeartbeats 4000000 in
set_option maxRecDepth 100000 in
theorem c_md_out {l : Launch} {G : q_G} (htr : l.stackTraces = false) {h : q_H} {N : Nat} {M : mR} {v : Int32} {n : Nat} : q_Met l G m_md_out 0 0 0 0 [.ref (42), .int (v), .int (nI (n))] (md_put h M) N (q_Id (some (.int (bI (decide (v < 0 ∨ ¬ v < nI n))))) (md_put h M) N) := by
  refine q_Met.mk htr (by decide +kernel) rfl (List.forall_mem_cons.mpr ⟨rfl, List.forall_mem_cons.mpr ⟨rfl, List.forall_mem_cons.mpr ⟨rfl, fun _ h => nomatch h⟩⟩⟩) (Nat.le_of_ble_eq_true rfl) ?_
  refine e_iload_n (pc := 0) d_md_out_0 rfl ?_
  refine e_if_lt (pc := 1) (tgt := 9) d_md_out_1 (by decide) (fun c => ?_) (fun c => ?_)
  · refine e_iconst (pc := 9) d_md_out_9 (v := (bI (true))) rfl ?_
    refine e_goto (pc := 10) (tgt := 14) d_md_out_10 (by decide) ?_
    exact e_retB (pc := 14) d_md_out_14 rfl (⟨by rw [decide_eq_true (Or.inl c)], rfl, rfl⟩)
  · refine e_iload_n (pc := 4) d_md_out_4 rfl ?_
    refine e_iload_n (pc := 5) d_md_out_5 rfl ?_
    refine e_icmp_lt (pc := 6) (tgt := 13) d_md_out_6 (by decide) (fun c2 => ?_) (fun c2 => ?_)
    · refine e_iconst (pc := 13) d_md_out_13 (v := (bI (false))) rfl ?_
      exact e_retB (pc := 14) d_md_out_14 rfl (⟨by rw [decide_eq_false (fun w => w.elim c (fun u => u c2))], rfl, rfl⟩)
    · refine e_iconst (pc := 9) d_md_out_9 (v := (bI (true))) rfl ?_
      refine e_goto (pc := 10) (tgt := 14) d_md_out_10 (by decide) ?_
      exact e_retB (pc := 14) d_md_out_14 rfl (⟨by rw [decide_eq_true (Or.inr c2)], rfl, rfl⟩)
set_option maxHeartbeats 4000000 in
set_option maxRecDepth 100000 in
theorem c_md_parent {l : Launch} {G : q_G} (htr : l.stackTraces = false) {h : q_H} {N : Nat} {M : mR} {p : Nat} (hp : p < 259) : q_Met l G m_md_parent 0 0 0 0 [.ref (42), .int (nI (p))] (md_put h M) N (q_Id (some (.int (nI ((p - 1) / 6)))) (md_put h M) N) := by
  refine q_Met.mk htr (by decide +kernel) rfl (List.forall_mem_cons.mpr ⟨rfl, List.forall_mem_cons.mpr ⟨rfl, fun _ h => nomatch h⟩⟩) (Nat.le_of_ble_eq_true rfl) ?_
  by_cases h1 : 1 ≤ p
  · refine e_iload_n (pc := 0) d_md_parent_0 rfl ?_
    refine e_iconst (pc := 1) d_md_parent_1 (v := (nI (1))) rfl ?_
    refine e_isubN (pc := 2) d_md_parent_2 (by omega) ?_
    refine e_bipush (pc := 3) d_md_parent_3 (v := (nI (6))) rfl ?_
    refine e_idivN (pc := 5) d_md_parent_5 (by omega) (by decide) (by decide) ?_
    exact e_iret (pc := 6) d_md_parent_6 rfl (⟨rfl, rfl, rfl⟩)
  · have h0 : p = 0 := by omega
    subst h0
    refine e_iload_n (pc := 0) d_md_parent_0 rfl ?_
    refine e_iconst (pc := 1) d_md_parent_1 (v := (nI (1))) rfl ?_
    refine e_isub (pc := 2) d_md_parent_2  ?_
    refine e_bipush (pc := 3) d_md_parent_3 (v := (nI (6))) rfl ?_
    refine e_idiv (pc := 5) d_md_parent_5 (by decide) ?_
    exact e_iret (pc := 6) d_md_parent_6 rfl (⟨rfl, rfl, rfl⟩)
set_option maxHeartbeats 4000000 in
set_option maxRecDepth 100000 in
theorem lp_md_plant {l : Launch} {G : q_G} (htr : l.stackTraces = false) {h : q_H} {N : Nat} {M : mR}  : ∀ (g k : Nat), 259 < k + g → k ≤ 259 → q_Ev l G m_md_plant 0 0 0 0 2 [some (.ref (42)), some (.int (nI (k)))] [] (md_put h (((M.1.1), (M.1.2.1), (M.1.2.2.1), (M.1.2.2.2)), ((M.2.1.1), (M.2.1.2.1), (M.2.1.2.2.1), (M.2.1.2.2.2)), ((M.2.2.1.1), (M.2.2.1.2.1), (M.2.2.1.2.2.1), (M.2.2.1.2.2.2.1), (M.2.2.1.2.2.2.2)), ((M.2.2.2.1.1), (M.2.2.2.1.2.1), (M.2.2.2.1.2.2.1), (M.2.2.2.1.2.2.2.1), (M.2.2.2.1.2.2.2.2)), ((M.2.2.2.2.1.1), (M.2.2.2.2.1.2.1), (M.2.2.2.2.1.2.2.1), (M.2.2.2.2.1.2.2.2)), ((thK (M.2.2.2.2.2.1) k), (M.2.2.2.2.2.2.1), (M.2.2.2.2.2.2.2.1), (M.2.2.2.2.2.2.2.2.1), (M.2.2.2.2.2.2.2.2.2)))) N (q_To (none) (md_put h (((M.1.1), (M.1.2.1), (M.1.2.2.1), (M.1.2.2.2)), ((M.2.1.1), (M.2.1.2.1), (M.2.1.2.2.1), (M.2.1.2.2.2)), ((M.2.2.1.1), (M.2.2.1.2.1), (M.2.2.1.2.2.1), (M.2.2.1.2.2.2.1), (M.2.2.1.2.2.2.2)), ((M.2.2.2.1.1), (M.2.2.2.1.2.1), (M.2.2.2.1.2.2.1), (M.2.2.2.1.2.2.2.1), (M.2.2.2.1.2.2.2.2)), ((M.2.2.2.2.1.1), (M.2.2.2.2.1.2.1), (M.2.2.2.2.1.2.2.1), (M.2.2.2.2.1.2.2.2)), ((thK (M.2.2.2.2.2.1) 259), (upd (M.2.2.2.2.2.2.1) 0 (nI 0)), (upd (M.2.2.2.2.2.2.2.1) 0 (nI 0)), (va_up (M.2.2.2.2.2.2.2.2.1) 0 0), (upd (M.2.2.2.2.2.2.2.2.2) 0 (-1))))) N) := by
  intro g
  induction g with
  | zero => intro k hg hk; omega
  | succ g ih =>
    intro k hg hk
    refine e_iload_n (pc := 2) d_md_plant_2 rfl ?_
    refine e_sipush (pc := 3) d_md_plant_3 (v := (nI (259))) rfl ?_
    refine e_icmp_geN (pc := 6) (tgt := 30) d_md_plant_6 (by decide) (by omega) (by omega) (fun c => ?_) (fun c => ?_)
    · have hkn : k = 259 := by omega
      subst hkn
      refine e_aload_n (pc := 30) d_md_plant_30 rfl ?_
      refine e_get (pc := 31) d_md_plant_31 fl_md_72 md_g42 rfl ?_
      refine e_iconst (pc := 34) d_md_plant_34 (v := (nI (0))) rfl ?_
      refine e_iconst (pc := 35) d_md_plant_35 (v := (nI (0))) rfl ?_
      refine e_iastN (pc := 36) d_md_plant_36 md_g62 (by omega) (by decide) ?_
      rw [md_u62]
      show q_Ev l G m_md_plant 0 0 0 0 37 [some (.ref (42)), some (.int (nI (259)))] [] (md_put h (((M.1.1), (M.1.2.1), (M.1.2.2.1), (M.1.2.2.2)), ((M.2.1.1), (M.2.1.2.1), (M.2.1.2.2.1), (M.2.1.2.2.2)), ((M.2.2.1.1), (M.2.2.1.2.1), (M.2.2.1.2.2.1), (M.2.2.1.2.2.2.1), (M.2.2.1.2.2.2.2)), ((M.2.2.2.1.1), (M.2.2.2.1.2.1), (M.2.2.2.1.2.2.1), (M.2.2.2.1.2.2.2.1), (M.2.2.2.1.2.2.2.2)), ((M.2.2.2.2.1.1), (M.2.2.2.2.1.2.1), (M.2.2.2.2.1.2.2.1), (M.2.2.2.2.1.2.2.2)), ((thK (M.2.2.2.2.2.1) 259), (upd ((M.2.2.2.2.2.2.1)) (0) ((nI (0)))), (M.2.2.2.2.2.2.2.1), (M.2.2.2.2.2.2.2.2.1), (M.2.2.2.2.2.2.2.2.2)))) N _
      refine e_aload_n (pc := 37) d_md_plant_37 rfl ?_
      refine e_get (pc := 38) d_md_plant_38 fl_md_75 md_g42 rfl ?_
      refine e_iconst (pc := 41) d_md_plant_41 (v := (nI (0))) rfl ?_
      refine e_iconst (pc := 42) d_md_plant_42 (v := (nI (0))) rfl ?_
      refine e_iastN (pc := 43) d_md_plant_43 md_g63 (by omega) (by decide) ?_
      rw [md_u63]
      show q_Ev l G m_md_plant 0 0 0 0 44 [some (.ref (42)), some (.int (nI (259)))] [] (md_put h (((M.1.1), (M.1.2.1), (M.1.2.2.1), (M.1.2.2.2)), ((M.2.1.1), (M.2.1.2.1), (M.2.1.2.2.1), (M.2.1.2.2.2)), ((M.2.2.1.1), (M.2.2.1.2.1), (M.2.2.1.2.2.1), (M.2.2.1.2.2.2.1), (M.2.2.1.2.2.2.2)), ((M.2.2.2.1.1), (M.2.2.2.1.2.1), (M.2.2.2.1.2.2.1), (M.2.2.2.1.2.2.2.1), (M.2.2.2.1.2.2.2.2)), ((M.2.2.2.2.1.1), (M.2.2.2.2.1.2.1), (M.2.2.2.2.1.2.2.1), (M.2.2.2.2.1.2.2.2)), ((thK (M.2.2.2.2.2.1) 259), (upd ((M.2.2.2.2.2.2.1)) (0) ((nI (0)))), (upd ((M.2.2.2.2.2.2.2.1)) (0) ((nI (0)))), (M.2.2.2.2.2.2.2.2.1), (M.2.2.2.2.2.2.2.2.2)))) N _
      refine e_aload_n (pc := 44) d_md_plant_44 rfl ?_
      refine e_get (pc := 45) d_md_plant_45 fl_md_78 md_g42 rfl ?_
      refine e_iconst (pc := 48) d_md_plant_48 (v := (nI (0))) rfl ?_
      refine e_iconst (pc := 49) d_md_plant_49 (v := (nI (0))) rfl ?_
      refine e_nastN (pc := 50) d_md_plant_50 (f := (M.2.2.2.2.2.2.2.2.1)) md_g64 (by omega) (by decide) ?_
      rw [md_u64]
      show q_Ev l G m_md_plant 0 0 0 0 51 [some (.ref (42)), some (.int (nI (259)))] [] (md_put h (((M.1.1), (M.1.2.1), (M.1.2.2.1), (M.1.2.2.2)), ((M.2.1.1), (M.2.1.2.1), (M.2.1.2.2.1), (M.2.1.2.2.2)), ((M.2.2.1.1), (M.2.2.1.2.1), (M.2.2.1.2.2.1), (M.2.2.1.2.2.2.1), (M.2.2.1.2.2.2.2)), ((M.2.2.2.1.1), (M.2.2.2.1.2.1), (M.2.2.2.1.2.2.1), (M.2.2.2.1.2.2.2.1), (M.2.2.2.1.2.2.2.2)), ((M.2.2.2.2.1.1), (M.2.2.2.2.1.2.1), (M.2.2.2.2.1.2.2.1), (M.2.2.2.2.1.2.2.2)), ((thK (M.2.2.2.2.2.1) 259), (upd ((M.2.2.2.2.2.2.1)) (0) ((nI (0)))), (upd ((M.2.2.2.2.2.2.2.1)) (0) ((nI (0)))), (va_up ((M.2.2.2.2.2.2.2.2.1)) (0) (0)), (M.2.2.2.2.2.2.2.2.2)))) N _
      refine e_aload_n (pc := 51) d_md_plant_51 rfl ?_
      refine e_get (pc := 52) d_md_plant_52 fl_md_81 md_g42 rfl ?_
      refine e_iconst (pc := 55) d_md_plant_55 (v := (nI (0))) rfl ?_
      refine e_iconst (pc := 56) d_md_plant_56 (v := (-1)) rfl ?_
      refine e_iastN (pc := 57) d_md_plant_57 md_g65 (by omega) (by decide) ?_
      rw [md_u65]
      show q_Ev l G m_md_plant 0 0 0 0 58 [some (.ref (42)), some (.int (nI (259)))] [] (md_put h (((M.1.1), (M.1.2.1), (M.1.2.2.1), (M.1.2.2.2)), ((M.2.1.1), (M.2.1.2.1), (M.2.1.2.2.1), (M.2.1.2.2.2)), ((M.2.2.1.1), (M.2.2.1.2.1), (M.2.2.1.2.2.1), (M.2.2.1.2.2.2.1), (M.2.2.1.2.2.2.2)), ((M.2.2.2.1.1), (M.2.2.2.1.2.1), (M.2.2.2.1.2.2.1), (M.2.2.2.1.2.2.2.1), (M.2.2.2.1.2.2.2.2)), ((M.2.2.2.2.1.1), (M.2.2.2.2.1.2.1), (M.2.2.2.2.1.2.2.1), (M.2.2.2.2.1.2.2.2)), ((thK (M.2.2.2.2.2.1) 259), (upd ((M.2.2.2.2.2.2.1)) (0) ((nI (0)))), (upd ((M.2.2.2.2.2.2.2.1)) (0) ((nI (0)))), (va_up ((M.2.2.2.2.2.2.2.2.1)) (0) (0)), (upd ((M.2.2.2.2.2.2.2.2.2)) (0) ((-1)))))) N _
      exact e_vret (pc := 58) d_md_plant_58 rfl (⟨rfl, rfl, rfl⟩)
    · refine e_aload_n (pc := 9) d_md_plant_9 rfl ?_
      refine e_get (pc := 10) d_md_plant_10 fl_md_69 md_g42 rfl ?_
      refine e_iload_n (pc := 13) d_md_plant_13 rfl ?_
      refine e_iload_n (pc := 14) d_md_plant_14 rfl ?_
      refine e_if_neN (pc := 15) (tgt := 22) d_md_plant_15 (by decide) (by omega) (fun c2 => ?_) (fun c2 => ?_)
      · refine e_iconst (pc := 22) d_md_plant_22 (v := (bI (false))) rfl ?_
        refine e_zastN (pc := 23) (f := thK (M.2.2.2.2.2.1) k) (b := false) d_md_plant_23 md_g61 c (by decide) ?_
        rw [md_u61, thK_s _ _ _ (by simp [c2])]
        refine e_iincN (pc := 24) d_md_plant_24 (a := k) (b := 1) rfl rfl (by decide) ?_
        refine e_goto (pc := 27) (tgt := 2) d_md_plant_27 (by decide) ?_
        exact ih (k + 1) (by omega) (by omega)
      · refine e_iconst (pc := 18) d_md_plant_18 (v := (bI (true))) rfl ?_
        refine e_goto (pc := 19) (tgt := 23) d_md_plant_19 (by decide) ?_
        refine e_zastN (pc := 23) (f := thK (M.2.2.2.2.2.1) k) (b := true) d_md_plant_23 md_g61 c (by decide) ?_
        rw [md_u61, thK_s _ _ _ (by simp [c2])]
        refine e_iincN (pc := 24) d_md_plant_24 (a := k) (b := 1) rfl rfl (by decide) ?_
        refine e_goto (pc := 27) (tgt := 2) d_md_plant_27 (by decide) ?_
        exact ih (k + 1) (by omega) (by omega)
set_option maxHeartbeats 4000000 in
set_option maxRecDepth 100000 in
theorem c_md_plant {l : Launch} {G : q_G} (htr : l.stackTraces = false) {h : q_H} {N : Nat} {M : mR}  : q_Met l G m_md_plant 0 0 0 0 [.ref (42)] (md_put h M) N (q_To (none) (md_put h (((M.1.1), (M.1.2.1), (M.1.2.2.1), (M.1.2.2.2)), ((M.2.1.1), (M.2.1.2.1), (M.2.1.2.2.1), (M.2.1.2.2.2)), ((M.2.2.1.1), (M.2.2.1.2.1), (M.2.2.1.2.2.1), (M.2.2.1.2.2.2.1), (M.2.2.1.2.2.2.2)), ((M.2.2.2.1.1), (M.2.2.2.1.2.1), (M.2.2.2.1.2.2.1), (M.2.2.2.1.2.2.2.1), (M.2.2.2.1.2.2.2.2)), ((M.2.2.2.2.1.1), (M.2.2.2.2.1.2.1), (M.2.2.2.2.1.2.2.1), (M.2.2.2.2.1.2.2.2)), ((thK (M.2.2.2.2.2.1) 259), (upd (M.2.2.2.2.2.2.1) 0 (nI 0)), (upd (M.2.2.2.2.2.2.2.1) 0 (nI 0)), (va_up (M.2.2.2.2.2.2.2.2.1) 0 0), (upd (M.2.2.2.2.2.2.2.2.2) 0 (-1))))) N) := by
  refine q_Met.mk htr (by decide +kernel) rfl (List.forall_mem_cons.mpr ⟨rfl, fun _ h => nomatch h⟩) (Nat.le_of_ble_eq_true rfl) ?_
  refine e_iconst (pc := 0) d_md_plant_0 (v := (nI (0))) rfl ?_
  refine e_istore_n (pc := 1) d_md_plant_1 (by decide) ?_
  have := lp_md_plant (l := l) (G := G) htr (h := h) (N := N) (M := M) 260 0 (by omega) (by omega)
  rw [thK_0] at this
  exact this
set_option maxHeartbeats 4000000 in
set_option maxRecDepth 100000 in
theorem c_md_fit {l : Launch} {G : q_G} (htr : l.stackTraces = false) {h : q_H} {N : Nat} {M : mR} {i : Nat} (hi : i < 3) : q_Met l G m_md_fit 0 0 0 0 [.ref (42), .int (nI (i))] (md_put h M) N (q_Id (some (.int (bI (m_fit M i)))) (md_put h M) N) := by
  refine q_Met.mk htr (by decide +kernel) rfl (List.forall_mem_cons.mpr ⟨rfl, List.forall_mem_cons.mpr ⟨rfl, fun _ h => nomatch h⟩⟩) (Nat.le_of_ble_eq_true rfl) ?_
  refine e_aload_n (pc := 0) d_md_fit_0 rfl ?_
  refine e_get (pc := 1) d_md_fit_1 fl_md_31 md_g42 rfl ?_
  refine e_iload_n (pc := 4) d_md_fit_4 rfl ?_
  refine e_zaldN (pc := 5) d_md_fit_5 (f := (M.2.2.1.2.2.2.1)) md_g50 (by omega) (by decide) ?_
  refine e_ifB_ne (pc := 6) (tgt := 22) d_md_fit_6 (by decide) (fun c => ?_) (fun c => ?_)
  · refine e_iconst (pc := 22) d_md_fit_22 (v := (bI (false))) rfl ?_
    exact e_retB (pc := 23) d_md_fit_23 rfl (⟨by simp only [m_fit, c]; rfl, rfl, rfl⟩)
  · refine e_aload_n (pc := 9) d_md_fit_9 rfl ?_
    refine e_get (pc := 10) d_md_fit_10 fl_md_35 md_g42 rfl ?_
    refine e_iload_n (pc := 13) d_md_fit_13 rfl ?_
    refine e_zaldN (pc := 14) d_md_fit_14 (f := (M.2.2.1.2.2.2.2)) md_g51 (by omega) (by decide) ?_
    refine e_ifB_ne (pc := 15) (tgt := 22) d_md_fit_15 (by decide) (fun c2 => ?_) (fun c2 => ?_)
    · refine e_iconst (pc := 22) d_md_fit_22 (v := (bI (false))) rfl ?_
      exact e_retB (pc := 23) d_md_fit_23 rfl (⟨by simp only [m_fit, c, c2]; rfl, rfl, rfl⟩)
    · refine e_iconst (pc := 18) d_md_fit_18 (v := (bI (true))) rfl ?_
      refine e_goto (pc := 19) (tgt := 23) d_md_fit_19 (by decide) ?_
      exact e_retB (pc := 23) d_md_fit_23 rfl (⟨by simp only [m_fit, c, c2]; rfl, rfl, rfl⟩)
set_option maxHeartbeats 4000000 in
set_option maxRecDepth 100000 in
theorem c_md_linked {l : Launch} {G : q_G} (htr : l.stackTraces = false) {h : q_H} {N : Nat} {M : mR} (hM : m_ok M) {i : Nat} (hi : i < 3) : q_Met l G m_md_linked 1 21 0 0 [.ref (42), .int (nI (i))] (md_put h M) N (q_Id (some (.int (bI (m_lk M i)))) (md_put h M) N) := by
  refine q_Met.mk htr (by decide +kernel) rfl (List.forall_mem_cons.mpr ⟨rfl, List.forall_mem_cons.mpr ⟨rfl, fun _ h => nomatch h⟩⟩) (Nat.le_of_ble_eq_true rfl) ?_
  refine e_aload_n (pc := 0) d_md_linked_0 rfl ?_
  refine e_get (pc := 1) d_md_linked_1 fl_md_105 md_g42 rfl ?_
  refine e_if_lt (pc := 4) (tgt := 30) d_md_linked_4 (by decide) (fun c => ?_) (fun c => ?_)
  · have hl := (ldI_lt0 hM).mp c
    refine e_iconst (pc := 30) d_md_linked_30 (v := (bI (false))) rfl ?_
    exact e_retB (pc := 31) d_md_linked_31 rfl (⟨by simp only [m_lk, hl], rfl, rfl⟩)
  · obtain ⟨k, hl⟩ : ∃ k, M.1.2.1 = some k := by cases hx : M.1.2.1 with | none => exact absurd (by rw [hx]; decide) c | some k => exact ⟨k, rfl⟩
    have hk := hM k hl
    refine e_aload_n (pc := 7) d_md_linked_7 rfl ?_
    refine e_aload_n (pc := 8) d_md_linked_8 rfl ?_
    refine e_get (pc := 9) d_md_linked_9 fl_md_105 md_g42 rfl ?_
    rw [show (ldI (M.1.2.1)) = nI k by rw [hl]; rfl]
    refine e_callV (As := [.int (nI (k))]) (st := []) (cc2 := 0) (ss2 := 0) (pc := 12) d_md_linked_12 rfl cv_md_108 md_g42 rfl (c_md_fit htr hk) rfl (by decide) (by decide) (by omega) (by omega) (Nat.le_of_ble_eq_true rfl) (fun _ _ _ hq => nomatch hq.1) (fun r h2 N2 hq => ?_)
    obtain ⟨hr, e1, e2⟩ := hq
    cases hr
    rw [e1, e2]
    clear e1 e2
    show q_Ev l G m_md_linked 1 21 0 0 15 [some (.ref (42)), some (.int (nI (i)))] [.int (bI (m_fit M k))] (md_put h M) N _
    refine e_ifB_eq (pc := 15) (tgt := 30) d_md_linked_15 (by decide) (fun c2 => ?_) (fun c2 => ?_)
    · refine e_iconst (pc := 30) d_md_linked_30 (v := (bI (false))) rfl ?_
      exact e_retB (pc := 31) d_md_linked_31 rfl (⟨by simp only [m_lk, hl, c2]; rfl, rfl, rfl⟩)
    · refine e_aload_n (pc := 18) d_md_linked_18 rfl ?_
      refine e_iload_n (pc := 19) d_md_linked_19 rfl ?_
      refine e_callV (As := [.int (nI (i))]) (st := []) (cc2 := 0) (ss2 := 0) (pc := 20) d_md_linked_20 rfl cv_md_108 md_g42 rfl (c_md_fit htr hi) rfl (by decide) (by decide) (by omega) (by omega) (Nat.le_of_ble_eq_true rfl) (fun _ _ _ hq => nomatch hq.1) (fun r h2 N2 hq => ?_)
      obtain ⟨hr, e1, e2⟩ := hq
      cases hr
      rw [e1, e2]
      clear e1 e2
      show q_Ev l G m_md_linked 1 21 0 0 23 [some (.ref (42)), some (.int (nI (i)))] [.int (bI (m_fit M i))] (md_put h M) N _
      refine e_ifB_eq (pc := 23) (tgt := 30) d_md_linked_23 (by decide) (fun c3 => ?_) (fun c3 => ?_)
      · refine e_iconst (pc := 30) d_md_linked_30 (v := (bI (false))) rfl ?_
        exact e_retB (pc := 31) d_md_linked_31 rfl (⟨by simp only [m_lk, hl, c2, c3]; rfl, rfl, rfl⟩)
      · refine e_iconst (pc := 26) d_md_linked_26 (v := (bI (true))) rfl ?_
        refine e_goto (pc := 27) (tgt := 31) d_md_linked_27 (by decide) ?_
        exact e_retB (pc := 31) d_md_linked_31 rfl (⟨by simp only [m_lk, hl, c2, c3]; rfl, rfl, rfl⟩)
set_option maxHeartbeats 4000000 in
set_option maxRecDepth 100000 in
theorem lp_md_quorum {l : Launch} {G : q_G} (htr : l.stackTraces = false) {h : q_H} {N : Nat} {M : mR} (hM : m_ok M) : ∀ (g k : Nat), 3 < k + g → k ≤ 3 → q_Ev l G m_md_quorum 2 42 0 0 4 [some (.ref (42)), some (.int (nI (cntB (m_lk M) k))), some (.int (nI (k)))] [] (md_put h M) N (q_Id (some (.int (bI (m_qr M)))) (md_put h M) N) := by
  intro g
  induction g with
  | zero => intro k hg hk; omega
  | succ g ih =>
    intro k hg hk
    have hle := cntB_le (m_lk M) k
    refine e_iload_n (pc := 4) d_md_quorum_4 rfl ?_
    refine e_iconst (pc := 5) d_md_quorum_5 (v := (nI (3))) rfl ?_
    refine e_icmp_geN (pc := 6) (tgt := 31) d_md_quorum_6 (by decide) (by omega) (by omega) (fun c => ?_) (fun c => ?_)
    · have hkn : k = 3 := by omega
      subst hkn
      refine e_iload_n (pc := 31) d_md_quorum_31 rfl ?_
      refine e_iconst (pc := 32) d_md_quorum_32 (v := (nI (1))) rfl ?_
      refine e_icmp_leN (pc := 33) (tgt := 40) d_md_quorum_33 (by decide) (by omega) (by omega) (fun c2 => ?_) (fun c2 => ?_)
      · refine e_iconst (pc := 40) d_md_quorum_40 (v := (bI (false))) rfl ?_
        exact e_retB (pc := 41) d_md_quorum_41 rfl (⟨by simp only [m_qr, decide_eq_false (show ¬ 1 < cntB (m_lk M) 3 by omega)], rfl, rfl⟩)
      · refine e_iconst (pc := 36) d_md_quorum_36 (v := (bI (true))) rfl ?_
        refine e_goto (pc := 37) (tgt := 41) d_md_quorum_37 (by decide) ?_
        exact e_retB (pc := 41) d_md_quorum_41 rfl (⟨by simp only [m_qr, decide_eq_true c2], rfl, rfl⟩)
    · refine e_iload_n (pc := 9) d_md_quorum_9 rfl ?_
      refine e_aload_n (pc := 10) d_md_quorum_10 rfl ?_
      refine e_iload_n (pc := 11) d_md_quorum_11 rfl ?_
      refine e_callV (As := [.int (nI (k))]) (st := [.int (nI (cntB (m_lk M) k))]) (cc2 := 0) (ss2 := 0) (pc := 12) d_md_quorum_12 rfl cv_md_112 md_g42 rfl (c_md_linked htr hM c) rfl (by decide) (by decide) (by omega) (by omega) (Nat.le_of_ble_eq_true rfl) (fun _ _ _ hq => nomatch hq.1) (fun r h2 N2 hq => ?_)
      obtain ⟨hr, e1, e2⟩ := hq
      cases hr
      rw [e1, e2]
      clear e1 e2
      show q_Ev l G m_md_quorum 2 42 0 0 15 [some (.ref (42)), some (.int (nI (cntB (m_lk M) k))), some (.int (nI (k)))] [.int (bI (m_lk M k)), .int (nI (cntB (m_lk M) k))] (md_put h M) N _
      refine e_ifB_eq (pc := 15) (tgt := 22) d_md_quorum_15 (by decide) (fun c2 => ?_) (fun c2 => ?_)
      · refine e_iconst (pc := 22) d_md_quorum_22 (v := (nI (0))) rfl ?_
        refine e_iaddN (pc := 23) d_md_quorum_23  ?_
        refine e_istore_n (pc := 24) d_md_quorum_24 (by decide) ?_
        refine e_iincN (pc := 25) d_md_quorum_25 (a := k) (b := 1) rfl rfl (by decide) ?_
        refine e_goto (pc := 28) (tgt := 4) d_md_quorum_28 (by decide) ?_
        have e : cntB (m_lk M) (k + 1) = cntB (m_lk M) k + 0 := by simp only [cntB, c2]; rfl
        have := ih (k + 1) (by omega) (by omega)
        rw [e] at this
        exact this
      · refine e_iconst (pc := 18) d_md_quorum_18 (v := (nI (1))) rfl ?_
        refine e_goto (pc := 19) (tgt := 23) d_md_quorum_19 (by decide) ?_
        refine e_iaddN (pc := 23) d_md_quorum_23  ?_
        refine e_istore_n (pc := 24) d_md_quorum_24 (by decide) ?_
        refine e_iincN (pc := 25) d_md_quorum_25 (a := k) (b := 1) rfl rfl (by decide) ?_
        refine e_goto (pc := 28) (tgt := 4) d_md_quorum_28 (by decide) ?_
        have e : cntB (m_lk M) (k + 1) = cntB (m_lk M) k + 1 := by simp only [cntB, c2]; rfl
        have := ih (k + 1) (by omega) (by omega)
        rw [e] at this
        exact this
set_option maxHeartbeats 4000000 in
set_option maxRecDepth 100000 in
theorem c_md_quorum {l : Launch} {G : q_G} (htr : l.stackTraces = false) {h : q_H} {N : Nat} {M : mR} (hM : m_ok M) : q_Met l G m_md_quorum 2 42 0 0 [.ref (42)] (md_put h M) N (q_Id (some (.int (bI (m_qr M)))) (md_put h M) N) := by
  refine q_Met.mk htr (by decide +kernel) rfl (List.forall_mem_cons.mpr ⟨rfl, fun _ h => nomatch h⟩) (Nat.le_of_ble_eq_true rfl) ?_
  refine e_iconst (pc := 0) d_md_quorum_0 (v := (nI (0))) rfl ?_
  refine e_istore_n (pc := 1) d_md_quorum_1 (by decide) ?_
  refine e_iconst (pc := 2) d_md_quorum_2 (v := (nI (0))) rfl ?_
  refine e_istore_n (pc := 3) d_md_quorum_3 (by decide) ?_
  exact lp_md_quorum htr hM 4 0 (by omega) (by omega)
set_option maxHeartbeats 4000000 in
set_option maxRecDepth 100000 in
theorem c_md_connected {l : Launch} {G : q_G} (htr : l.stackTraces = false) {h : q_H} {N : Nat} {M : mR} {j : Nat} (hj : j < 4) (ha : M.2.2.2.1.2.2.1 j < 3) : q_Met l G m_md_connected 0 0 0 0 [.ref (42), .int (nI (j))] (md_put h M) N (q_Id (some (.int (bI (m_cn M j)))) (md_put h M) N) := by
  refine q_Met.mk htr (by decide +kernel) rfl (List.forall_mem_cons.mpr ⟨rfl, List.forall_mem_cons.mpr ⟨rfl, fun _ h => nomatch h⟩⟩) (Nat.le_of_ble_eq_true rfl) ?_
  refine e_aload_n (pc := 0) d_md_connected_0 rfl ?_
  refine e_get (pc := 1) d_md_connected_1 fl_md_42 md_g42 rfl ?_
  refine e_iload_n (pc := 4) d_md_connected_4 rfl ?_
  refine e_zaldN (pc := 5) d_md_connected_5 (f := (M.2.2.2.1.1)) md_g52 (by omega) (by decide) ?_
  refine e_ifB_eq (pc := 6) (tgt := 27) d_md_connected_6 (by decide) (fun c => ?_) (fun c => ?_)
  · refine e_iconst (pc := 27) d_md_connected_27 (v := (bI (false))) rfl ?_
    exact e_retB (pc := 28) d_md_connected_28 rfl (⟨by simp only [m_cn, c]; rfl, rfl, rfl⟩)
  · refine e_aload_n (pc := 9) d_md_connected_9 rfl ?_
    refine e_get (pc := 10) d_md_connected_10 fl_md_31 md_g42 rfl ?_
    refine e_aload_n (pc := 13) d_md_connected_13 rfl ?_
    refine e_get (pc := 14) d_md_connected_14 fl_md_48 md_g42 rfl ?_
    refine e_iload_n (pc := 17) d_md_connected_17 rfl ?_
    refine e_naldN (pc := 18) d_md_connected_18 (f := (M.2.2.2.1.2.2.1)) md_g54 (by omega) (by decide) ?_
    refine e_zaldN (pc := 19) d_md_connected_19 (f := (M.2.2.1.2.2.2.1)) md_g50 (by omega) (by decide) ?_
    refine e_ifB_ne (pc := 20) (tgt := 27) d_md_connected_20 (by decide) (fun c2 => ?_) (fun c2 => ?_)
    · refine e_iconst (pc := 27) d_md_connected_27 (v := (bI (false))) rfl ?_
      exact e_retB (pc := 28) d_md_connected_28 rfl (⟨by simp only [m_cn, c, c2]; rfl, rfl, rfl⟩)
    · refine e_iconst (pc := 23) d_md_connected_23 (v := (bI (true))) rfl ?_
      refine e_goto (pc := 24) (tgt := 28) d_md_connected_24 (by decide) ?_
      exact e_retB (pc := 28) d_md_connected_28 rfl (⟨by simp only [m_cn, c, c2]; rfl, rfl, rfl⟩)
set_option maxHeartbeats 4000000 in
set_option maxRecDepth 100000 in
theorem c_md_reaches {l : Launch} {G : q_G} (htr : l.stackTraces = false) {h : q_H} {N : Nat} {M : mR} (hM : m_ok M) {j : Nat} (hj : j < 4) (ha : M.2.2.2.1.2.2.1 j < 3) : q_Met l G m_md_reaches 2 42 0 0 [.ref (42), .int (nI (j))] (md_put h M) N (q_Id (some (.int (bI (m_rc M j)))) (md_put h M) N) := by
  refine q_Met.mk htr (by decide +kernel) rfl (List.forall_mem_cons.mpr ⟨rfl, List.forall_mem_cons.mpr ⟨rfl, fun _ h => nomatch h⟩⟩) (Nat.le_of_ble_eq_true rfl) ?_
  refine e_aload_n (pc := 0) d_md_reaches_0 rfl ?_
  refine e_iload_n (pc := 1) d_md_reaches_1 rfl ?_
  refine e_callV (As := [.int (nI (j))]) (st := []) (cc2 := 0) (ss2 := 0) (pc := 2) d_md_reaches_2 rfl cv_md_138 md_g42 rfl (c_md_connected htr hj ha) rfl (by decide) (by decide) (by omega) (by omega) (Nat.le_of_ble_eq_true rfl) (fun _ _ _ hq => nomatch hq.1) (fun r h2 N2 hq => ?_)
  obtain ⟨hr, e1, e2⟩ := hq
  cases hr
  rw [e1, e2]
  clear e1 e2
  show q_Ev l G m_md_reaches 2 42 0 0 5 [some (.ref (42)), some (.int (nI (j)))] [.int (bI (m_cn M j))] (md_put h M) N _
  refine e_ifB_eq (pc := 5) (tgt := 38) d_md_reaches_5 (by decide) (fun c => ?_) (fun c => ?_)
  · refine e_iconst (pc := 38) d_md_reaches_38 (v := (bI (false))) rfl ?_
    exact e_retB (pc := 39) d_md_reaches_39 rfl (⟨by simp only [m_rc, c]; rfl, rfl, rfl⟩)
  · refine e_aload_n (pc := 8) d_md_reaches_8 rfl ?_
    refine e_aload_n (pc := 9) d_md_reaches_9 rfl ?_
    refine e_get (pc := 10) d_md_reaches_10 fl_md_48 md_g42 rfl ?_
    refine e_iload_n (pc := 13) d_md_reaches_13 rfl ?_
    refine e_naldN (pc := 14) d_md_reaches_14 (f := (M.2.2.2.1.2.2.1)) md_g54 (by omega) (by decide) ?_
    refine e_callV (As := [.int (nI (((M.2.2.2.1.2.2.1)) (j)))]) (st := []) (cc2 := 0) (ss2 := 0) (pc := 15) d_md_reaches_15 rfl cv_md_112 md_g42 rfl (c_md_linked htr hM ha) rfl (by decide) (by decide) (by omega) (by omega) (Nat.le_of_ble_eq_true rfl) (fun _ _ _ hq => nomatch hq.1) (fun r h2 N2 hq => ?_)
    obtain ⟨hr, e1, e2⟩ := hq
    cases hr
    rw [e1, e2]
    clear e1 e2
    show q_Ev l G m_md_reaches 2 42 0 0 18 [some (.ref (42)), some (.int (nI (j)))] [.int (bI (m_lk M (M.2.2.2.1.2.2.1 j)))] (md_put h M) N _
    refine e_ifB_ne (pc := 18) (tgt := 34) d_md_reaches_18 (by decide) (fun c2 => ?_) (fun c2 => ?_)
    · refine e_iconst (pc := 34) d_md_reaches_34 (v := (bI (true))) rfl ?_
      refine e_goto (pc := 35) (tgt := 39) d_md_reaches_35 (by decide) ?_
      exact e_retB (pc := 39) d_md_reaches_39 rfl (⟨by simp only [m_rc, c, c2]; rfl, rfl, rfl⟩)
    · refine e_aload_n (pc := 21) d_md_reaches_21 rfl ?_
      refine e_get (pc := 22) d_md_reaches_22 fl_md_48 md_g42 rfl ?_
      refine e_iload_n (pc := 25) d_md_reaches_25 rfl ?_
      refine e_naldN (pc := 26) d_md_reaches_26 (f := (M.2.2.2.1.2.2.1)) md_g54 (by omega) (by decide) ?_
      refine e_aload_n (pc := 27) d_md_reaches_27 rfl ?_
      refine e_get (pc := 28) d_md_reaches_28 fl_md_105 md_g42 rfl ?_
      refine e_icmp_ne (pc := 31) (tgt := 38) d_md_reaches_31 (by decide) (fun c3 => ?_) (fun c3 => ?_)
      · refine e_iconst (pc := 38) d_md_reaches_38 (v := (bI (false))) rfl ?_
        exact e_retB (pc := 39) d_md_reaches_39 rfl (⟨by simp [m_rc, c, c2, mt (ldI_eq hM ha).mpr c3], rfl, rfl⟩)
      · refine e_iconst (pc := 34) d_md_reaches_34 (v := (bI (true))) rfl ?_
        refine e_goto (pc := 35) (tgt := 39) d_md_reaches_35 (by decide) ?_
        exact e_retB (pc := 39) d_md_reaches_39 rfl (⟨by simp [m_rc, c, (ldI_eq hM ha).mp c3], rfl, rfl⟩)
set_option maxHeartbeats 4000000 in
set_option maxRecDepth 100000 in
theorem lp_md_forget {l : Launch} {G : q_G} (htr : l.stackTraces = false) {h : q_H} {N : Nat} {M : mR} {s : Nat} (hs : s < 4) : ∀ (g k : Nat), 259 < k + g → k ≤ 259 → q_Ev l G m_md_forget 0 0 0 0 2 [some (.ref (42)), some (.int (nI (s))), some (.int (nI (k)))] [] (md_put h (((M.1.1), (M.1.2.1), (M.1.2.2.1), (M.1.2.2.2)), ((M.2.1.1), (M.2.1.2.1), (M.2.1.2.2.1), (M.2.1.2.2.2)), ((M.2.2.1.1), (M.2.2.1.2.1), (M.2.2.1.2.2.1), (M.2.2.1.2.2.2.1), (M.2.2.1.2.2.2.2)), ((M.2.2.2.1.1), (M.2.2.2.1.2.1), (M.2.2.2.1.2.2.1), (M.2.2.2.1.2.2.2.1), (M.2.2.2.1.2.2.2.2)), ((fgK (M.2.2.2.2.1.1) s k), (fgK (M.2.2.2.2.1.2.1) s k), (M.2.2.2.2.1.2.2.1), (M.2.2.2.2.1.2.2.2)), ((M.2.2.2.2.2.1), (M.2.2.2.2.2.2.1), (M.2.2.2.2.2.2.2.1), (M.2.2.2.2.2.2.2.2.1), (M.2.2.2.2.2.2.2.2.2)))) N (q_To (none) (md_put h (((M.1.1), (M.1.2.1), (M.1.2.2.1), (M.1.2.2.2)), ((M.2.1.1), (M.2.1.2.1), (M.2.1.2.2.1), (M.2.1.2.2.2)), ((M.2.2.1.1), (M.2.2.1.2.1), (M.2.2.1.2.2.1), (M.2.2.1.2.2.2.1), (M.2.2.1.2.2.2.2)), ((M.2.2.2.1.1), (M.2.2.2.1.2.1), (M.2.2.2.1.2.2.1), (M.2.2.2.1.2.2.2.1), (M.2.2.2.1.2.2.2.2)), ((fgK (M.2.2.2.2.1.1) s 259), (fgK (M.2.2.2.2.1.2.1) s 259), (M.2.2.2.2.1.2.2.1), (M.2.2.2.2.1.2.2.2)), ((M.2.2.2.2.2.1), (M.2.2.2.2.2.2.1), (M.2.2.2.2.2.2.2.1), (M.2.2.2.2.2.2.2.2.1), (M.2.2.2.2.2.2.2.2.2)))) N) := by
  intro g
  induction g with
  | zero => intro k hg hk; omega
  | succ g ih =>
    intro k hg hk
    refine e_iload_n (pc := 2) d_md_forget_2 rfl ?_
    refine e_sipush (pc := 3) d_md_forget_3 (v := (nI (259))) rfl ?_
    refine e_icmp_geN (pc := 6) (tgt := 41) d_md_forget_6 (by decide) (by omega) (by omega) (fun c => ?_) (fun c => ?_)
    · have hkn : k = 259 := by omega
      subst hkn
      exact e_vret (pc := 41) d_md_forget_41 rfl (⟨rfl, rfl, rfl⟩)
    · refine e_aload_n (pc := 9) d_md_forget_9 rfl ?_
      refine e_get (pc := 10) d_md_forget_10 fl_md_57 md_g42 rfl ?_
      refine e_sipush (pc := 13) d_md_forget_13 (v := (nI (259))) rfl ?_
      refine e_iload_n (pc := 16) d_md_forget_16 rfl ?_
      refine e_imulN (pc := 17) d_md_forget_17  ?_
      refine e_iload_n (pc := 18) d_md_forget_18 rfl ?_
      refine e_iaddN (pc := 19) d_md_forget_19  ?_
      refine e_iconst (pc := 20) d_md_forget_20 (v := (bI (false))) rfl ?_
      refine e_zastN (pc := 21) (f := fgK (M.2.2.2.2.1.1) s k) (b := false) d_md_forget_21 md_g57 (by omega) (by decide) ?_
      rw [md_u57, fgK_s]
      show q_Ev l G m_md_forget 0 0 0 0 22 [some (.ref (42)), some (.int (nI (s))), some (.int (nI (k)))] [] (md_put h (((M.1.1), (M.1.2.1), (M.1.2.2.1), (M.1.2.2.2)), ((M.2.1.1), (M.2.1.2.1), (M.2.1.2.2.1), (M.2.1.2.2.2)), ((M.2.2.1.1), (M.2.2.1.2.1), (M.2.2.1.2.2.1), (M.2.2.1.2.2.2.1), (M.2.2.1.2.2.2.2)), ((M.2.2.2.1.1), (M.2.2.2.1.2.1), (M.2.2.2.1.2.2.1), (M.2.2.2.1.2.2.2.1), (M.2.2.2.1.2.2.2.2)), ((fgK (M.2.2.2.2.1.1) s (k + 1)), (fgK (M.2.2.2.2.1.2.1) s k), (M.2.2.2.2.1.2.2.1), (M.2.2.2.2.1.2.2.2)), ((M.2.2.2.2.2.1), (M.2.2.2.2.2.2.1), (M.2.2.2.2.2.2.2.1), (M.2.2.2.2.2.2.2.2.1), (M.2.2.2.2.2.2.2.2.2)))) N _
      refine e_aload_n (pc := 22) d_md_forget_22 rfl ?_
      refine e_get (pc := 23) d_md_forget_23 fl_md_60 md_g42 rfl ?_
      refine e_sipush (pc := 26) d_md_forget_26 (v := (nI (259))) rfl ?_
      refine e_iload_n (pc := 29) d_md_forget_29 rfl ?_
      refine e_imulN (pc := 30) d_md_forget_30  ?_
      refine e_iload_n (pc := 31) d_md_forget_31 rfl ?_
      refine e_iaddN (pc := 32) d_md_forget_32  ?_
      refine e_iconst (pc := 33) d_md_forget_33 (v := (bI (false))) rfl ?_
      refine e_zastN (pc := 34) (f := fgK (M.2.2.2.2.1.2.1) s k) (b := false) d_md_forget_34 md_g58 (by omega) (by decide) ?_
      rw [md_u58, fgK_s]
      refine e_iincN (pc := 35) d_md_forget_35 (a := k) (b := 1) rfl rfl (by decide) ?_
      refine e_goto (pc := 38) (tgt := 2) d_md_forget_38 (by decide) ?_
      exact ih (k + 1) (by omega) (by omega)
set_option maxHeartbeats 4000000 in
set_option maxRecDepth 100000 in
theorem c_md_forget {l : Launch} {G : q_G} (htr : l.stackTraces = false) {h : q_H} {N : Nat} {M : mR} {s : Nat} (hs : s < 4) : q_Met l G m_md_forget 0 0 0 0 [.ref (42), .int (nI (s))] (md_put h M) N (q_To (none) (md_put h (((M.1.1), (M.1.2.1), (M.1.2.2.1), (M.1.2.2.2)), ((M.2.1.1), (M.2.1.2.1), (M.2.1.2.2.1), (M.2.1.2.2.2)), ((M.2.2.1.1), (M.2.2.1.2.1), (M.2.2.1.2.2.1), (M.2.2.1.2.2.2.1), (M.2.2.1.2.2.2.2)), ((M.2.2.2.1.1), (M.2.2.2.1.2.1), (M.2.2.2.1.2.2.1), (M.2.2.2.1.2.2.2.1), (M.2.2.2.1.2.2.2.2)), ((fgK (M.2.2.2.2.1.1) s 259), (fgK (M.2.2.2.2.1.2.1) s 259), (M.2.2.2.2.1.2.2.1), (M.2.2.2.2.1.2.2.2)), ((M.2.2.2.2.2.1), (M.2.2.2.2.2.2.1), (M.2.2.2.2.2.2.2.1), (M.2.2.2.2.2.2.2.2.1), (M.2.2.2.2.2.2.2.2.2)))) N) := by
  refine q_Met.mk htr (by decide +kernel) rfl (List.forall_mem_cons.mpr ⟨rfl, List.forall_mem_cons.mpr ⟨rfl, fun _ h => nomatch h⟩⟩) (Nat.le_of_ble_eq_true rfl) ?_
  refine e_iconst (pc := 0) d_md_forget_0 (v := (nI (0))) rfl ?_
  refine e_istore_n (pc := 1) d_md_forget_1 (by decide) ?_
  have := lp_md_forget (l := l) (G := G) htr (h := h) (N := N) (M := M) hs 260 0 (by omega) (by omega)
  rw [fgK_0, fgK_0] at this
  exact this
set_option maxHeartbeats 4000000 in
set_option maxRecDepth 100000 in
theorem c_md_finish {l : Launch} {G : q_G} (htr : l.stackTraces = false) {h : q_H} {N : Nat} {M : mR} {s : Nat} (hs : s < 4) : q_Met l G m_md_finish 1 22 0 0 [.ref (42), .int (nI (s))] (md_put h M) N (q_To (none) (md_put h (((M.1.1), (M.1.2.1), (M.1.2.2.1), (M.1.2.2.2)), ((M.2.1.1), (M.2.1.2.1), (M.2.1.2.2.1), (M.2.1.2.2.2)), ((M.2.2.1.1), (M.2.2.1.2.1), (M.2.2.1.2.2.1), (M.2.2.1.2.2.2.1), (M.2.2.1.2.2.2.2)), ((va_up (M.2.2.2.1.1) s false), (va_up (M.2.2.2.1.2.1) s true), (M.2.2.2.1.2.2.1), (M.2.2.2.1.2.2.2.1), (M.2.2.2.1.2.2.2.2)), ((fgK (M.2.2.2.2.1.1) s 259), (fgK (M.2.2.2.2.1.2.1) s 259), (M.2.2.2.2.1.2.2.1), (va_up (M.2.2.2.2.1.2.2.2) s 0)), ((M.2.2.2.2.2.1), (M.2.2.2.2.2.2.1), (M.2.2.2.2.2.2.2.1), (M.2.2.2.2.2.2.2.2.1), (M.2.2.2.2.2.2.2.2.2)))) N) := by
  refine q_Met.mk htr (by decide +kernel) rfl (List.forall_mem_cons.mpr ⟨rfl, List.forall_mem_cons.mpr ⟨rfl, fun _ h => nomatch h⟩⟩) (Nat.le_of_ble_eq_true rfl) ?_
  refine e_aload_n (pc := 0) d_md_finish_0 rfl ?_
  refine e_get (pc := 1) d_md_finish_1 fl_md_42 md_g42 rfl ?_
  refine e_iload_n (pc := 4) d_md_finish_4 rfl ?_
  refine e_iconst (pc := 5) d_md_finish_5 (v := (bI (false))) rfl ?_
  refine e_zastN (pc := 6) d_md_finish_6 (f := (M.2.2.2.1.1)) md_g52 (by omega) (by decide) ?_
  rw [md_u52]
  show q_Ev l G m_md_finish 1 22 0 0 7 [some (.ref (42)), some (.int (nI (s)))] [] (md_put h (((M.1.1), (M.1.2.1), (M.1.2.2.1), (M.1.2.2.2)), ((M.2.1.1), (M.2.1.2.1), (M.2.1.2.2.1), (M.2.1.2.2.2)), ((M.2.2.1.1), (M.2.2.1.2.1), (M.2.2.1.2.2.1), (M.2.2.1.2.2.2.1), (M.2.2.1.2.2.2.2)), ((va_up ((M.2.2.2.1.1)) (s) (false)), (M.2.2.2.1.2.1), (M.2.2.2.1.2.2.1), (M.2.2.2.1.2.2.2.1), (M.2.2.2.1.2.2.2.2)), ((M.2.2.2.2.1.1), (M.2.2.2.2.1.2.1), (M.2.2.2.2.1.2.2.1), (M.2.2.2.2.1.2.2.2)), ((M.2.2.2.2.2.1), (M.2.2.2.2.2.2.1), (M.2.2.2.2.2.2.2.1), (M.2.2.2.2.2.2.2.2.1), (M.2.2.2.2.2.2.2.2.2)))) N _
  refine e_aload_n (pc := 7) d_md_finish_7 rfl ?_
  refine e_get (pc := 8) d_md_finish_8 fl_md_45 md_g42 rfl ?_
  refine e_iload_n (pc := 11) d_md_finish_11 rfl ?_
  refine e_iconst (pc := 12) d_md_finish_12 (v := (bI (true))) rfl ?_
  refine e_zastN (pc := 13) d_md_finish_13 (f := (M.2.2.2.1.2.1)) md_g53 (by omega) (by decide) ?_
  rw [md_u53]
  show q_Ev l G m_md_finish 1 22 0 0 14 [some (.ref (42)), some (.int (nI (s)))] [] (md_put h (((M.1.1), (M.1.2.1), (M.1.2.2.1), (M.1.2.2.2)), ((M.2.1.1), (M.2.1.2.1), (M.2.1.2.2.1), (M.2.1.2.2.2)), ((M.2.2.1.1), (M.2.2.1.2.1), (M.2.2.1.2.2.1), (M.2.2.1.2.2.2.1), (M.2.2.1.2.2.2.2)), ((va_up ((M.2.2.2.1.1)) (s) (false)), (va_up ((M.2.2.2.1.2.1)) (s) (true)), (M.2.2.2.1.2.2.1), (M.2.2.2.1.2.2.2.1), (M.2.2.2.1.2.2.2.2)), ((M.2.2.2.2.1.1), (M.2.2.2.2.1.2.1), (M.2.2.2.2.1.2.2.1), (M.2.2.2.2.1.2.2.2)), ((M.2.2.2.2.2.1), (M.2.2.2.2.2.2.1), (M.2.2.2.2.2.2.2.1), (M.2.2.2.2.2.2.2.2.1), (M.2.2.2.2.2.2.2.2.2)))) N _
  refine e_aload_n (pc := 14) d_md_finish_14 rfl ?_
  refine e_iload_n (pc := 15) d_md_finish_15 rfl ?_
  refine e_callV (As := [.int (nI (s))]) (st := []) (cc2 := 0) (ss2 := 0) (pc := 16) d_md_finish_16 rfl cv_md_141 md_g42 rfl (c_md_forget htr hs) rfl (by decide) (by decide) (by omega) (by omega) (Nat.le_of_ble_eq_true rfl) (fun _ _ _ hq => nomatch hq.1) (fun r h2 N2 hq => ?_)
  obtain ⟨hr, e1, e2⟩ := hq
  cases hr
  rw [e1, e2]
  clear e1 e2
  show q_Ev l G m_md_finish 1 22 0 0 19 [some (.ref (42)), some (.int (nI (s)))] [] _ N _
  show q_Ev l G m_md_finish 1 22 0 0 19 [some (.ref (42)), some (.int (nI (s)))] [] (md_put h (((M.1.1), (M.1.2.1), (M.1.2.2.1), (M.1.2.2.2)), ((M.2.1.1), (M.2.1.2.1), (M.2.1.2.2.1), (M.2.1.2.2.2)), ((M.2.2.1.1), (M.2.2.1.2.1), (M.2.2.1.2.2.1), (M.2.2.1.2.2.2.1), (M.2.2.1.2.2.2.2)), ((va_up ((M.2.2.2.1.1)) (s) (false)), (va_up ((M.2.2.2.1.2.1)) (s) (true)), (M.2.2.2.1.2.2.1), (M.2.2.2.1.2.2.2.1), (M.2.2.2.1.2.2.2.2)), ((fgK (M.2.2.2.2.1.1) s 259), (fgK (M.2.2.2.2.1.2.1) s 259), (M.2.2.2.2.1.2.2.1), (M.2.2.2.2.1.2.2.2)), ((M.2.2.2.2.2.1), (M.2.2.2.2.2.2.1), (M.2.2.2.2.2.2.2.1), (M.2.2.2.2.2.2.2.2.1), (M.2.2.2.2.2.2.2.2.2)))) N _
  refine e_aload_n (pc := 19) d_md_finish_19 rfl ?_
  refine e_get (pc := 20) d_md_finish_20 fl_md_66 md_g42 rfl ?_
  refine e_iload_n (pc := 23) d_md_finish_23 rfl ?_
  refine e_iconst (pc := 24) d_md_finish_24 (v := (nI (0))) rfl ?_
  refine e_nastN (pc := 25) d_md_finish_25 (f := (M.2.2.2.2.1.2.2.2)) md_g60 (by omega) (by decide) ?_
  rw [md_u60]
  show q_Ev l G m_md_finish 1 22 0 0 26 [some (.ref (42)), some (.int (nI (s)))] [] (md_put h (((M.1.1), (M.1.2.1), (M.1.2.2.1), (M.1.2.2.2)), ((M.2.1.1), (M.2.1.2.1), (M.2.1.2.2.1), (M.2.1.2.2.2)), ((M.2.2.1.1), (M.2.2.1.2.1), (M.2.2.1.2.2.1), (M.2.2.1.2.2.2.1), (M.2.2.1.2.2.2.2)), ((va_up ((M.2.2.2.1.1)) (s) (false)), (va_up ((M.2.2.2.1.2.1)) (s) (true)), (M.2.2.2.1.2.2.1), (M.2.2.2.1.2.2.2.1), (M.2.2.2.1.2.2.2.2)), ((fgK (M.2.2.2.2.1.1) s 259), (fgK (M.2.2.2.2.1.2.1) s 259), (M.2.2.2.2.1.2.2.1), (va_up ((M.2.2.2.2.1.2.2.2)) (s) (0))), ((M.2.2.2.2.2.1), (M.2.2.2.2.2.2.1), (M.2.2.2.2.2.2.2.1), (M.2.2.2.2.2.2.2.2.1), (M.2.2.2.2.2.2.2.2.2)))) N _
  exact e_vret (pc := 26) d_md_finish_26 rfl (⟨rfl, rfl, rfl⟩)
