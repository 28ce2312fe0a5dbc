/-! LEAVES: what small methods answer and do -/
/-- nothing changes, this is the answer -/
def q_Id (v : Option Value) (h : q_H) (N : Nat) : q_Q := fun o h' N' => o = .inl v ∧ h' = h ∧ N' = N
/-- the heap becomes this one -/
def q_To (v : Option Value) (h2 : q_H) (N : Nat) : q_Q := fun o h' N' => o = .inl v ∧ h' = h2 ∧ N' = N
/-- a tree at t: its arrays lie behind it -/
def tr_At (h : q_H) (t : Nat) (dt vr ow nx : Nat → Int32) : Prop := h t = some (.inr (3, [.ref (t + 1), .ref (t + 2), .ref (t + 3), .ref (t + 4)])) ∧ h (t + 1) = some (q_ai 259 dt) ∧ h (t + 2) = some (q_ai 259 vr) ∧ h (t + 3) = some (q_ai 259 ow) ∧ h (t + 4) = some (q_ai 43 nx)
theorem q_up_up (h : q_H) (k : Nat) (e e' : q_E) : q_up (q_up h k e) k e' = q_up h k e' := by
  funext j
  by_cases c : j = k
  · simp [q_up, c]
  · simp [q_up, c]
theorem q_up_id {h : q_H} {k : Nat} {e : q_E} (hk : h k = some e) : q_up h k e = h := by
  funext j
  by_cases c : j = k
  · subst c; simp [q_up, hk]
  · simp [q_up, c]
def fillN (f : Nat → Int32) (k : Nat) (v : Int32) : Nat → Int32 := fun i => if i < k then v else f i
theorem fillN_s (f : Nat → Int32) (k : Nat) (v : Int32) : upd (fillN f k v) k v = fillN f (k + 1) v := by
  funext i
  by_cases c : i = k
  · subst c; simp [upd, fillN]
  · have : i < k + 1 ↔ i < k := by omega
    simp [upd, fillN, c, this]
theorem fillN_0 (f : Nat → Int32) (v : Int32) : fillN f 0 v = f := by funext i; simp [fillN]
set_option maxHeartbeats 4000000 in
set_option maxRecDepth 100000 in
theorem lp_ar_fill {l : Launch} {G : q_G} {h : q_H} {N a n : Nat} {f : Nat → Int32} {v : Int32} (hn : n < 2 ^ 31) : ∀ (g k : Nat), n < k + g → k ≤ n → q_Ev l G m_ar_fill 0 0 0 0 5 [some (.ref a), some (.int v), some (.int (nI k)), some (.int (nI n))] [] (q_up h a (q_ai n (fillN f k v))) N (q_To none (q_up h a (q_ai n (fillN f n v))) N) := by
  intro g
  induction g with
  | zero => intro k hg hk; omega
  | succ g ih =>
    intro k hg hk
    refine e_iload_n (pc := 5) d_ar_fill_5 rfl ?_
    refine e_iload_n (pc := 6) d_ar_fill_6 rfl ?_
    refine e_icmp_geN (pc := 7) (tgt := 20) d_ar_fill_7 (by decide) (by omega) (by omega) (fun c => ?_) (fun c => ?_)
    · have hkn : k = n := by omega
      subst hkn
      exact e_vret (pc := 20) d_ar_fill_20 rfl (⟨rfl, rfl, rfl⟩)
    · refine e_aload_n (pc := 10) d_ar_fill_10 rfl ?_
      refine e_iload_n (pc := 11) d_ar_fill_11 rfl ?_
      refine e_iload_n (pc := 12) d_ar_fill_12 rfl ?_
      refine e_iastN (pc := 13) d_ar_fill_13 (q_up_s _ _ _) c hn ?_
      rw [fillN_s, q_up_up]
      refine e_iincN (pc := 14) d_ar_fill_14 (a := k) (b := 1) rfl rfl (by decide) ?_
      refine e_goto (pc := 17) (tgt := 5) d_ar_fill_17 (by decide) ?_
      exact ih (k + 1) (by omega) (by omega)
set_option maxHeartbeats 4000000 in
set_option maxRecDepth 100000 in
theorem c_ar_fill {l : Launch} {G : q_G} (htr : l.stackTraces = false) {h : q_H} {N : Nat} {a n : Nat} {f : Nat → Int32} {v : Int32} (hn : n < 2 ^ 31) (ha : h a = some (q_ai n f)) : q_Met l G m_ar_fill 0 0 0 0 [.ref (a), .int (v)] h N (q_To none (q_up h a (q_ai n (fillN f n v))) N) := by
  refine q_Met.mk htr (by decide +kernel) rfl (List.forall_mem_cons.mpr ⟨rfl, List.forall_mem_cons.mpr ⟨rfl, fun _ h => nomatch h⟩⟩) (Nat.le_of_ble_eq_true rfl) ?_
  refine e_iconst (pc := 0) d_ar_fill_0 (v := (nI (0))) rfl ?_
  refine e_istore_n (pc := 1) d_ar_fill_1 (by decide) ?_
  refine e_aload_n (pc := 2) d_ar_fill_2 rfl ?_
  refine e_alen (pc := 3) d_ar_fill_3 ha (fun _ => rfl) ?_
  refine e_istore_n (pc := 4) d_ar_fill_4 (by decide) ?_
  have := lp_ar_fill (l := l) (G := G) (h := h) (N := N) (a := a) (f := f) (v := v) hn (n + 1) 0 (by omega) (by omega)
  rw [fillN_0, q_up_id ha] at this
  exact this
set_option maxHeartbeats 4000000 in
set_option maxRecDepth 100000 in
theorem c_zs_parentOf {l : Launch} {G : q_G} (htr : l.stackTraces = false) {h : q_H} {N : Nat} {p : Nat} (h1 : 1 ≤ p) (h2 : p < 2 ^ 31) : q_Met l G m_zs_parentOf 0 0 0 0 [.int (nI (p))] h N (q_Id (some (.int (nI ((p - 1) / 6)))) h N) := by
  refine q_Met.mk htr (by decide +kernel) rfl (List.forall_mem_cons.mpr ⟨rfl, fun _ h => nomatch h⟩) (Nat.le_of_ble_eq_true rfl) ?_
  refine e_iload_n (pc := 0) d_zs_parentOf_0 rfl ?_
  refine e_iconst (pc := 1) d_zs_parentOf_1 (v := (nI (1))) rfl ?_
  refine e_isubN (pc := 2) d_zs_parentOf_2 (by omega) ?_
  refine e_bipush (pc := 3) d_zs_parentOf_3 (v := (nI (6))) rfl ?_
  refine e_idivN (pc := 5) d_zs_parentOf_5 (by omega) (by decide) (by decide) ?_
  exact e_iret (pc := 6) d_zs_parentOf_6 rfl (⟨rfl, rfl, rfl⟩)
set_option maxHeartbeats 4000000 in
set_option maxRecDepth 100000 in
theorem c_zs_childOf {l : Launch} {G : q_G} (htr : l.stackTraces = false) {h : q_H} {N : Nat} {p k : Nat} : q_Met l G m_zs_childOf 0 0 0 0 [.int (nI (p)), .int (nI (k))] h N (q_Id (some (.int (nI (6 * p + k + 1)))) h N) := by
  refine q_Met.mk htr (by decide +kernel) rfl (List.forall_mem_cons.mpr ⟨rfl, List.forall_mem_cons.mpr ⟨rfl, fun _ h => nomatch h⟩⟩) (Nat.le_of_ble_eq_true rfl) ?_
  refine e_bipush (pc := 0) d_zs_childOf_0 (v := (nI (6))) rfl ?_
  refine e_iload_n (pc := 2) d_zs_childOf_2 rfl ?_
  refine e_imulN (pc := 3) d_zs_childOf_3  ?_
  refine e_iload_n (pc := 4) d_zs_childOf_4 rfl ?_
  refine e_iaddN (pc := 5) d_zs_childOf_5  ?_
  refine e_iconst (pc := 6) d_zs_childOf_6 (v := (nI (1))) rfl ?_
  refine e_iaddN (pc := 7) d_zs_childOf_7  ?_
  exact e_iret (pc := 8) d_zs_childOf_8 rfl (⟨rfl, rfl, rfl⟩)
set_option maxHeartbeats 4000000 in
set_option maxRecDepth 100000 in
theorem c_tr_has {l : Launch} {G : q_G} (htr : l.stackTraces = false) {h : q_H} {N : Nat} {t : Nat} {dt vr ow nx : Nat → Int32} (hT : tr_At h t dt vr ow nx) {p : Nat} (hp : p < 259) : q_Met l G m_tr_has 0 0 0 0 [.ref (t), .int (nI (p))] h N (q_Id (some (.int (bI (decide (vr p ≠ -1))))) h N) := by
  refine q_Met.mk htr (by decide +kernel) rfl (List.forall_mem_cons.mpr ⟨rfl, List.forall_mem_cons.mpr ⟨rfl, fun _ h => nomatch h⟩⟩) (Nat.le_of_ble_eq_true rfl) ?_
  refine e_aload_n (pc := 0) d_tr_has_0 rfl ?_
  refine e_get (pc := 1) d_tr_has_1 fl_tr_15 hT.1 rfl ?_
  refine e_iload_n (pc := 4) d_tr_has_4 rfl ?_
  refine e_ialdN (pc := 5) d_tr_has_5 hT.2.2.1 (by omega) (by decide) ?_
  refine e_iconst (pc := 6) d_tr_has_6 (v := (-1)) rfl ?_
  refine e_icmp_eq (pc := 7) (tgt := 14) d_tr_has_7 (by decide) (fun c => ?_) (fun c => ?_)
  · refine e_iconst (pc := 14) d_tr_has_14 (v := (bI (false))) rfl ?_
    exact e_retB (pc := 15) d_tr_has_15 rfl (⟨by rw [c]; rfl, rfl, rfl⟩)
  · refine e_iconst (pc := 10) d_tr_has_10 (v := (bI (true))) rfl ?_
    refine e_goto (pc := 11) (tgt := 15) d_tr_has_11 (by decide) ?_
    exact e_retB (pc := 15) d_tr_has_15 rfl (⟨by rw [decide_eq_true c], rfl, rfl⟩)
set_option maxHeartbeats 4000000 in
set_option maxRecDepth 100000 in
theorem c_tr_dropNode {l : Launch} {G : q_G} (htr : l.stackTraces = false) {h : q_H} {N : Nat} {t : Nat} {dt vr ow nx : Nat → Int32} (hT : tr_At h t dt vr ow nx) {p : Nat} (hp : p < 259) : q_Met l G m_tr_dropNode 0 0 0 0 [.ref (t), .int (nI (p))] h N (q_To none (q_up (q_up h (t + 2) (q_ai 259 (upd vr p (-1)))) (t + 3) (q_ai 259 (upd ow p (-1)))) N) := by
  refine q_Met.mk htr (by decide +kernel) rfl (List.forall_mem_cons.mpr ⟨rfl, List.forall_mem_cons.mpr ⟨rfl, fun _ h => nomatch h⟩⟩) (Nat.le_of_ble_eq_true rfl) ?_
  refine e_aload_n (pc := 0) d_tr_dropNode_0 rfl ?_
  refine e_get (pc := 1) d_tr_dropNode_1 fl_tr_15 hT.1 rfl ?_
  refine e_iload_n (pc := 4) d_tr_dropNode_4 rfl ?_
  refine e_iconst (pc := 5) d_tr_dropNode_5 (v := (-1)) rfl ?_
  refine e_iastN (pc := 6) d_tr_dropNode_6 hT.2.2.1 (by omega) (by decide) ?_
  obtain ⟨h1, eh2⟩ : ∃ x, x = q_up h (t + 2) (q_ai 259 (upd (vr) (p) ((-1)))) := ⟨_, rfl⟩
  rw [← eh2]
  have hc3 : h1 (t) = some (.inr (3, [.ref (t + 1), .ref (t + 2), .ref (t + 3), .ref (t + 4)])) := by rw [eh2, q_up_n _ (show (t : Nat) ≠ t + 2 by omega)]; exact hT.1
  have hc4 : h1 (t + 1) = some (q_ai 259 (dt)) := by rw [eh2, q_up_n _ (show (t + 1 : Nat) ≠ t + 2 by omega)]; exact hT.2.1
  have hc5 : h1 (t + 2) = some (q_ai 259 (upd (vr) (p) ((-1)))) := by rw [eh2]; exact q_up_s _ _ _
  have hc6 : h1 (t + 3) = some (q_ai 259 (ow)) := by rw [eh2, q_up_n _ (show (t + 3 : Nat) ≠ t + 2 by omega)]; exact hT.2.2.2.1
  have hc7 : h1 (t + 4) = some (q_ai 43 (nx)) := by rw [eh2, q_up_n _ (show (t + 4 : Nat) ≠ t + 2 by omega)]; exact hT.2.2.2.2
  refine e_aload_n (pc := 7) d_tr_dropNode_7 rfl ?_
  refine e_get (pc := 8) d_tr_dropNode_8 fl_tr_18 hc3 rfl ?_
  refine e_iload_n (pc := 11) d_tr_dropNode_11 rfl ?_
  refine e_iconst (pc := 12) d_tr_dropNode_12 (v := (-1)) rfl ?_
  refine e_iastN (pc := 13) d_tr_dropNode_13 hc6 (by omega) (by decide) ?_
  obtain ⟨h8, eh9⟩ : ∃ x, x = q_up h1 (t + 3) (q_ai 259 (upd (ow) (p) ((-1)))) := ⟨_, rfl⟩
  rw [← eh9]
  have hc10 : h8 (t) = some (.inr (3, [.ref (t + 1), .ref (t + 2), .ref (t + 3), .ref (t + 4)])) := by rw [eh9, q_up_n _ (show (t : Nat) ≠ t + 3 by omega)]; exact hc3
  have hc11 : h8 (t + 1) = some (q_ai 259 (dt)) := by rw [eh9, q_up_n _ (show (t + 1 : Nat) ≠ t + 3 by omega)]; exact hc4
  have hc12 : h8 (t + 2) = some (q_ai 259 (upd (vr) (p) ((-1)))) := by rw [eh9, q_up_n _ (show (t + 2 : Nat) ≠ t + 3 by omega)]; exact hc5
  have hc13 : h8 (t + 3) = some (q_ai 259 (upd (ow) (p) ((-1)))) := by rw [eh9]; exact q_up_s _ _ _
  have hc14 : h8 (t + 4) = some (q_ai 43 (nx)) := by rw [eh9, q_up_n _ (show (t + 4 : Nat) ≠ t + 3 by omega)]; exact hc7
  exact e_vret (pc := 14) d_tr_dropNode_14 rfl (⟨rfl, by subst_vars; rfl, rfl⟩)
