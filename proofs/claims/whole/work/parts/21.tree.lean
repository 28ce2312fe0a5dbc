/-! TREE: its methods, exactly, over its four arrays -/
abbrev tr_ob (t : Nat) : q_E := .inr (3, [.ref (t + 1), .ref (t + 2), .ref (t + 3), .ref (t + 4)])
/-- the heap with these arrays at t's places -/
def tr_put (h : q_H) (t : Nat) (dt vr ow nx : Nat → Int32) : q_H := fun j => if j = t + 1 then some (q_ai 259 dt) else if j = t + 2 then some (q_ai 259 vr) else if j = t + 3 then some (q_ai 259 ow) else if j = t + 4 then some (q_ai 43 nx) else h j
theorem tr_put_id {h : q_H} {t : Nat} {dt vr ow nx : Nat → Int32} (hT : tr_At h t dt vr ow nx) : tr_put h t dt vr ow nx = h := by
  funext j
  unfold tr_put
  split
  · next c => subst c; exact hT.2.1.symm
  · split
    · next c => subst c; exact hT.2.2.1.symm
    · split
      · next c => subst c; exact hT.2.2.2.1.symm
      · split
        · next c => subst c; exact hT.2.2.2.2.symm
        · rfl
section TP
variable {h : q_H} {t : Nat} {dt vr ow nx dt' vr' ow' nx' : Nat → Int32}
theorem tr_g1 : tr_put h t dt vr ow nx (t + 1) = some (q_ai 259 dt) := if_pos rfl
theorem tr_g2 : tr_put h t dt vr ow nx (t + 2) = some (q_ai 259 vr) := by unfold tr_put; rw [if_neg (by omega), if_pos rfl]
theorem tr_g3 : tr_put h t dt vr ow nx (t + 3) = some (q_ai 259 ow) := by unfold tr_put; rw [if_neg (by omega), if_neg (by omega), if_pos rfl]
theorem tr_g4 : tr_put h t dt vr ow nx (t + 4) = some (q_ai 43 nx) := by unfold tr_put; rw [if_neg (by omega), if_neg (by omega), if_neg (by omega), if_pos rfl]
theorem tr_gx {x : Nat} (hx : x < t + 1 ∨ t + 4 < x) : tr_put h t dt vr ow nx x = h x := by unfold tr_put; rw [if_neg (by omega), if_neg (by omega), if_neg (by omega), if_neg (by omega)]
theorem tr_put_at (ho : h t = some (tr_ob t)) : tr_At (tr_put h t dt vr ow nx) t dt vr ow nx := ⟨by rw [tr_gx (by omega)]; exact ho, tr_g1, tr_g2, tr_g3, tr_g4⟩
theorem tr_u1 : q_up (tr_put h t dt vr ow nx) (t + 1) (q_ai 259 dt') = tr_put h t dt' vr ow nx := by
  funext j
  simp only [tr_put, q_up]
  (repeat' split) <;> first | rfl | (exfalso; omega)
theorem tr_u2 : q_up (tr_put h t dt vr ow nx) (t + 2) (q_ai 259 vr') = tr_put h t dt vr' ow nx := by
  funext j
  simp only [tr_put, q_up]
  (repeat' split) <;> first | rfl | (exfalso; omega)
theorem tr_u3 : q_up (tr_put h t dt vr ow nx) (t + 3) (q_ai 259 ow') = tr_put h t dt vr ow' nx := by
  funext j
  simp only [tr_put, q_up]
  (repeat' split) <;> first | rfl | (exfalso; omega)
theorem tr_u4 : q_up (tr_put h t dt vr ow nx) (t + 4) (q_ai 43 nx') = tr_put h t dt vr ow nx' := by
  funext j
  simp only [tr_put, q_up]
  (repeat' split) <;> first | rfl | (exfalso; omega)
theorem tr_put_put : tr_put (tr_put h t dt vr ow nx) t dt' vr' ow' nx' = tr_put h t dt' vr' ow' nx' := by
  funext j
  simp only [tr_put]
  (repeat' split) <;> first | rfl | (exfalso; omega)
end TP
/-- how many of the first k hold -/
def cntB (f : Nat → Bool) : Nat → Nat
  | 0 => 0
  | k + 1 => cntB f k + if f k then 1 else 0
theorem cntB_le (f : Nat → Bool) : ∀ k, cntB f k ≤ k := by
  intro k
  induction k with
  | zero => exact Nat.le_refl _
  | succ k ih => simp only [cntB]; split <;> omega
/-- the children's bits, of the first k names -/
def kidB (f : Nat → Bool) (p : Nat) : Nat → Int32
  | 0 => 0
  | k + 1 => if f (6 * p + k + 1) then kidB f p k ||| ((1 : Int32) <<< (nI k &&& 31)) else kidB f p k
/-- those of the paths 1 .. k - 1 that s owns get v -/
def owdK (f ow : Nat → Int32) (s : Int32) (k : Nat) : Nat → Int32 := fun q => if 1 ≤ q ∧ q < k ∧ ow q = s then -1 else f q
theorem owdK_1 (f ow : Nat → Int32) (s : Int32) : owdK f ow s 1 = f := by
  funext q
  unfold owdK
  rw [if_neg (by omega)]
theorem owdK_y {f ow : Nat → Int32} {s : Int32} {k : Nat} (hk : 1 ≤ k) (hs : ow k = s) : upd (owdK f ow s k) k (-1) = owdK f ow s (k + 1) := by
  funext q
  by_cases c : q = k
  · subst c
    have : 1 ≤ q ∧ q < q + 1 ∧ ow q = s := ⟨hk, by omega, hs⟩
    simp [upd, owdK, this]
  · have : (1 ≤ q ∧ q < k + 1 ∧ ow q = s) ↔ (1 ≤ q ∧ q < k ∧ ow q = s) := ⟨fun z => ⟨z.1, by omega, z.2.2⟩, fun z => ⟨z.1, by omega, z.2.2⟩⟩
    simp [upd, owdK, c, this]
theorem owdK_n {f ow : Nat → Int32} {s : Int32} {k : Nat} (hs : ¬ ow k = s) : owdK f ow s k = owdK f ow s (k + 1) := by
  funext q
  by_cases c : q = k
  · subst c
    simp [owdK, hs]
  · have : (1 ≤ q ∧ q < k + 1 ∧ ow q = s) ↔ (1 ≤ q ∧ q < k ∧ ow q = s) := ⟨fun z => ⟨z.1, by omega, z.2.2⟩, fun z => ⟨z.1, by omega, z.2.2⟩⟩
    simp [owdK, this]
theorem owdK_at (f ow : Nat → Int32) (s : Int32) (k : Nat) : owdK f ow s k k = f k := by
  unfold owdK
  rw [if_neg (by omega)]
set_option maxHeartbeats 4000000 in
set_option maxRecDepth 100000 in
theorem lp_tr_countNodes {l : Launch} {G : q_G} (htr : l.stackTraces = false) {h : q_H} {N : Nat} {t : Nat} {dt vr ow nx : Nat → Int32} (hT : tr_At h t dt vr ow nx) : ∀ (g k : Nat), 259 < k + g → k ≤ 259 → q_Ev l G m_tr_countNodes 1 21 0 0 4 [some (.ref (t)), some (.int (nI (cntB (fun q => decide (vr q ≠ -1)) k))), some (.int (nI (k)))] [] h N (q_Id (some (.int (nI (cntB (fun q => decide (vr q ≠ -1)) 259)))) h N) := by
  intro g
  induction g with
  | zero => intro k hg hk; omega
  | succ g ih =>
    intro k hg hk
    have hle := cntB_le (fun q => decide (vr q ≠ -1)) k
    refine e_iload_n (pc := 4) d_tr_countNodes_4 rfl ?_
    refine e_sipush (pc := 5) d_tr_countNodes_5 (v := (nI (259))) rfl ?_
    refine e_icmp_geN (pc := 8) (tgt := 28) d_tr_countNodes_8 (by decide) (by omega) (by omega) (fun c => ?_) (fun c => ?_)
    · have hkn : k = 259 := by omega
      subst hkn
      refine e_iload_n (pc := 28) d_tr_countNodes_28 rfl ?_
      exact e_iret (pc := 29) d_tr_countNodes_29 rfl (⟨rfl, rfl, rfl⟩)
    · refine e_aload_n (pc := 11) d_tr_countNodes_11 rfl ?_
      refine e_iload_n (pc := 12) d_tr_countNodes_12 rfl ?_
      refine e_callV (As := [.int (nI (k))]) (st := []) (cc2 := 0) (ss2 := 0) (pc := 13) d_tr_countNodes_13 rfl cv_tr_66 hT.1 rfl (c_tr_has htr hT c) rfl (by decide) (by decide) (by omega) (by omega) (Nat.le_of_ble_eq_true rfl) (fun _ _ _ hq => nomatch hq.1) (fun r h2 N2 hq => ?_)
      obtain ⟨hr, e1, e2⟩ := hq
      cases hr
      rw [e1, e2]
      clear e1 e2
      show q_Ev l G m_tr_countNodes 1 21 0 0 16 [some (.ref (t)), some (.int (nI (cntB (fun q => decide (vr q ≠ -1)) k))), some (.int (nI (k)))] [.int (bI (decide (vr k ≠ -1)))] h N _
      refine e_ifB_eq (pc := 16) (tgt := 22) d_tr_countNodes_16 (by decide) (fun c2 => ?_) (fun c2 => ?_)
      · refine e_iincN (pc := 22) d_tr_countNodes_22 (a := k) (b := 1) rfl rfl (by decide) ?_
        refine e_goto (pc := 25) (tgt := 4) d_tr_countNodes_25 (by decide) ?_
        have e : cntB (fun q => decide (vr q ≠ -1)) (k + 1) = cntB (fun q => decide (vr q ≠ -1)) k := by simp only [cntB, c2]; rfl
        have := ih (k + 1) (by omega) (by omega)
        rw [e] at this
        exact this
      · refine e_iincN (pc := 19) d_tr_countNodes_19 (a := cntB (fun q => decide (vr q ≠ -1)) k) (b := 1) rfl rfl (by decide) ?_
        refine e_iincN (pc := 22) d_tr_countNodes_22 (a := k) (b := 1) rfl rfl (by decide) ?_
        refine e_goto (pc := 25) (tgt := 4) d_tr_countNodes_25 (by decide) ?_
        have e : cntB (fun q => decide (vr q ≠ -1)) (k + 1) = cntB (fun q => decide (vr q ≠ -1)) k + 1 := by simp only [cntB, c2]; rfl
        have := ih (k + 1) (by omega) (by omega)
        rw [e] at this
        exact this
set_option maxHeartbeats 4000000 in
set_option maxRecDepth 100000 in
theorem c_tr_countNodes {l : Launch} {G : q_G} (htr : l.stackTraces = false) {h : q_H} {N : Nat} {t : Nat} {dt vr ow nx : Nat → Int32} (hT : tr_At h t dt vr ow nx) : q_Met l G m_tr_countNodes 1 21 0 0 [.ref (t)] h N (q_Id (some (.int (nI (cntB (fun q => decide (vr q ≠ -1)) 259)))) h N) := by
  refine q_Met.mk htr (by decide +kernel) rfl (List.forall_mem_cons.mpr ⟨rfl, fun _ h => nomatch h⟩) (Nat.le_of_ble_eq_true rfl) ?_
  refine e_iconst (pc := 0) d_tr_countNodes_0 (v := (nI (0))) rfl ?_
  refine e_istore_n (pc := 1) d_tr_countNodes_1 (by decide) ?_
  refine e_iconst (pc := 2) d_tr_countNodes_2 (v := (nI (0))) rfl ?_
  refine e_istore_n (pc := 3) d_tr_countNodes_3 (by decide) ?_
  exact lp_tr_countNodes htr hT 260 0 (by omega) (by omega)
set_option maxHeartbeats 4000000 in
set_option maxRecDepth 100000 in
theorem lp_tr_countOwned {l : Launch} {G : q_G} {h : q_H} {N : Nat} {t : Nat} {dt vr ow nx : Nat → Int32} (hT : tr_At h t dt vr ow nx) {s : Int32} : ∀ (g k : Nat), 259 < k + g → 1 ≤ k ∧ k ≤ 259 → q_Ev l G m_tr_countOwned 0 0 0 0 4 [some (.ref (t)), some (.int (s)), some (.int (nI (cntB (fun q => decide (1 ≤ q ∧ ow q = s)) k))), some (.int (nI (k)))] [] h N (q_Id (some (.int (nI (cntB (fun q => decide (1 ≤ q ∧ ow q = s)) 259)))) h N) := by
  intro g
  induction g with
  | zero => intro k hg hk; omega
  | succ g ih =>
    intro k hg hk
    have hle := cntB_le (fun q => decide (1 ≤ q ∧ ow q = s)) k
    refine e_iload_n (pc := 4) d_tr_countOwned_4 rfl ?_
    refine e_sipush (pc := 5) d_tr_countOwned_5 (v := (nI (259))) rfl ?_
    refine e_icmp_geN (pc := 8) (tgt := 30) d_tr_countOwned_8 (by decide) (by omega) (by omega) (fun c => ?_) (fun c => ?_)
    · have hkn : k = 259 := by omega
      subst hkn
      refine e_iload_n (pc := 30) d_tr_countOwned_30 rfl ?_
      exact e_iret (pc := 31) d_tr_countOwned_31 rfl (⟨rfl, rfl, rfl⟩)
    · refine e_aload_n (pc := 11) d_tr_countOwned_11 rfl ?_
      refine e_get (pc := 12) d_tr_countOwned_12 fl_tr_18 hT.1 rfl ?_
      refine e_iload_n (pc := 15) d_tr_countOwned_15 rfl ?_
      refine e_ialdN (pc := 16) d_tr_countOwned_16 hT.2.2.2.1 (by omega) (by decide) ?_
      refine e_iload_n (pc := 17) d_tr_countOwned_17 rfl ?_
      refine e_icmp_ne (pc := 18) (tgt := 24) d_tr_countOwned_18 (by decide) (fun c2 => ?_) (fun c2 => ?_)
      · refine e_iincN (pc := 24) d_tr_countOwned_24 (a := k) (b := 1) rfl rfl (by decide) ?_
        refine e_goto (pc := 27) (tgt := 4) d_tr_countOwned_27 (by decide) ?_
        have e : cntB (fun q => decide (1 ≤ q ∧ ow q = s)) (k + 1) = cntB (fun q => decide (1 ≤ q ∧ ow q = s)) k := by simp [cntB, c2]
        have := ih (k + 1) (by omega) (by omega)
        rw [e] at this
        exact this
      · refine e_iincN (pc := 21) d_tr_countOwned_21 (a := cntB (fun q => decide (1 ≤ q ∧ ow q = s)) k) (b := 1) rfl rfl (by decide) ?_
        refine e_iincN (pc := 24) d_tr_countOwned_24 (a := k) (b := 1) rfl rfl (by decide) ?_
        refine e_goto (pc := 27) (tgt := 4) d_tr_countOwned_27 (by decide) ?_
        have e : cntB (fun q => decide (1 ≤ q ∧ ow q = s)) (k + 1) = cntB (fun q => decide (1 ≤ q ∧ ow q = s)) k + 1 := by simp [cntB, c2, hk.1]
        have := ih (k + 1) (by omega) (by omega)
        rw [e] at this
        exact this
set_option maxHeartbeats 4000000 in
set_option maxRecDepth 100000 in
theorem c_tr_countOwned {l : Launch} {G : q_G} (htr : l.stackTraces = false) {h : q_H} {N : Nat} {t : Nat} {dt vr ow nx : Nat → Int32} (hT : tr_At h t dt vr ow nx) {s : Int32} : q_Met l G m_tr_countOwned 0 0 0 0 [.ref (t), .int (s)] h N (q_Id (some (.int (nI (cntB (fun q => decide (1 ≤ q ∧ ow q = s)) 259)))) h N) := by
  refine q_Met.mk htr (by decide +kernel) rfl (List.forall_mem_cons.mpr ⟨rfl, List.forall_mem_cons.mpr ⟨rfl, fun _ h => nomatch h⟩⟩) (Nat.le_of_ble_eq_true rfl) ?_
  refine e_iconst (pc := 0) d_tr_countOwned_0 (v := (nI (0))) rfl ?_
  refine e_istore_n (pc := 1) d_tr_countOwned_1 (by decide) ?_
  refine e_iconst (pc := 2) d_tr_countOwned_2 (v := (nI (1))) rfl ?_
  refine e_istore_n (pc := 3) d_tr_countOwned_3 (by decide) ?_
  have := lp_tr_countOwned (l := l) (G := G) (N := N) (s := s) hT 260 1 (by omega) (by omega)
  have e : cntB (fun q => decide (1 ≤ q ∧ ow q = s)) 1 = 0 := by simp [cntB]
  rw [e] at this
  exact this
set_option maxHeartbeats 4000000 in
set_option maxRecDepth 100000 in
theorem lp_tr_childrenOf {l : Launch} {G : q_G} (htr : l.stackTraces = false) {h : q_H} {N : Nat} {t : Nat} {dt vr ow nx : Nat → Int32} (hT : tr_At h t dt vr ow nx) {p : Nat} (hp : p < 43) : ∀ (g k : Nat), 6 < k + g → k ≤ 6 → q_Ev l G m_tr_childrenOf 1 21 0 0 12 [some (.ref (t)), some (.int (nI (p))), some (.int (kidB (fun q => decide (vr q ≠ -1)) p k)), some (.int (nI (k)))] [] h N (q_Id (some (.int (kidB (fun q => decide (vr q ≠ -1)) p 6))) h N) := by
  intro g
  induction g with
  | zero => intro k hg hk; omega
  | succ g ih =>
    intro k hg hk
    refine e_iload_n (pc := 12) d_tr_childrenOf_12 rfl ?_
    refine e_bipush (pc := 13) d_tr_childrenOf_13 (v := (nI (6))) rfl ?_
    refine e_icmp_geN (pc := 15) (tgt := 42) d_tr_childrenOf_15 (by decide) (by omega) (by omega) (fun c => ?_) (fun c => ?_)
    · have hkn : k = 6 := by omega
      subst hkn
      refine e_iload_n (pc := 42) d_tr_childrenOf_42 rfl ?_
      exact e_iret (pc := 43) d_tr_childrenOf_43 rfl (⟨rfl, rfl, rfl⟩)
    · refine e_aload_n (pc := 18) d_tr_childrenOf_18 rfl ?_
      refine e_iload_n (pc := 19) d_tr_childrenOf_19 rfl ?_
      refine e_iload_n (pc := 20) d_tr_childrenOf_20 rfl ?_
      refine e_callSN (As := [.int (nI (p)), .int (nI (k))]) (st := [.ref (t)]) (cc2 := 0) (ss2 := 0) (pc := 21) d_tr_childrenOf_21 cn_tr_62 (c_zs_childOf htr (p := p) (k := k)) rfl (by decide) (by decide) (by omega) (by omega) (Nat.le_of_ble_eq_true rfl) (fun _ _ _ hq => nomatch hq.1) (fun r h2 N2 hq => ?_)
      obtain ⟨hr, e1, e2⟩ := hq
      cases hr
      rw [e1, e2]
      clear e1 e2
      show q_Ev l G m_tr_childrenOf 1 21 0 0 24 [some (.ref (t)), some (.int (nI (p))), some (.int (kidB (fun q => decide (vr q ≠ -1)) p k)), some (.int (nI (k)))] [.int (nI (6 * p + k + 1)), .ref (t)] h N _
      refine e_callV (As := [.int (nI (6 * p + k + 1))]) (st := []) (cc2 := 0) (ss2 := 0) (pc := 24) d_tr_childrenOf_24 rfl cv_tr_66 hT.1 rfl (c_tr_has htr hT (p := 6 * p + k + 1) (by omega)) rfl (by decide) (by decide) (by omega) (by omega) (Nat.le_of_ble_eq_true rfl) (fun _ _ _ hq => nomatch hq.1) (fun r h2 N2 hq => ?_)
      obtain ⟨hr, e1, e2⟩ := hq
      cases hr
      rw [e1, e2]
      clear e1 e2
      show q_Ev l G m_tr_childrenOf 1 21 0 0 27 [some (.ref (t)), some (.int (nI (p))), some (.int (kidB (fun q => decide (vr q ≠ -1)) p k)), some (.int (nI (k)))] [.int (bI (decide (vr (6 * p + k + 1) ≠ -1)))] h N _
      refine e_ifB_eq (pc := 27) (tgt := 36) d_tr_childrenOf_27 (by decide) (fun c2 => ?_) (fun c2 => ?_)
      · refine e_iincN (pc := 36) d_tr_childrenOf_36 (a := k) (b := 1) rfl rfl (by decide) ?_
        refine e_goto (pc := 39) (tgt := 12) d_tr_childrenOf_39 (by decide) ?_
        have e : kidB (fun q => decide (vr q ≠ -1)) p (k + 1) = kidB (fun q => decide (vr q ≠ -1)) p k := by simp only [kidB, c2]; rfl
        have := ih (k + 1) (by omega) (by omega)
        rw [e] at this
        exact this
      · refine e_iload_n (pc := 30) d_tr_childrenOf_30 rfl ?_
        refine e_iconst (pc := 31) d_tr_childrenOf_31 (v := (nI (1))) rfl ?_
        refine e_iload_n (pc := 32) d_tr_childrenOf_32 rfl ?_
        refine e_ishl (pc := 33) d_tr_childrenOf_33  ?_
        refine e_ior (pc := 34) d_tr_childrenOf_34  ?_
        refine e_istore_n (pc := 35) d_tr_childrenOf_35 (by decide) ?_
        refine e_iincN (pc := 36) d_tr_childrenOf_36 (a := k) (b := 1) rfl rfl (by decide) ?_
        refine e_goto (pc := 39) (tgt := 12) d_tr_childrenOf_39 (by decide) ?_
        have e : kidB (fun q => decide (vr q ≠ -1)) p (k + 1) = kidB (fun q => decide (vr q ≠ -1)) p k ||| ((1 : Int32) <<< (nI k &&& 31)) := by simp only [kidB, c2]; rfl
        have := ih (k + 1) (by omega) (by omega)
        rw [e] at this
        exact this
set_option maxHeartbeats 4000000 in
set_option maxRecDepth 100000 in
theorem c_tr_childrenOf {l : Launch} {G : q_G} (htr : l.stackTraces = false) {h : q_H} {N : Nat} {t : Nat} {dt vr ow nx : Nat → Int32} (hT : tr_At h t dt vr ow nx) {p : Nat} (hp : p < 2 ^ 31) : q_Met l G m_tr_childrenOf 1 21 0 0 [.ref (t), .int (nI (p))] h N (q_Id (some (.int (if p < 43 then kidB (fun q => decide (vr q ≠ -1)) p 6 else 0))) h N) := by
  refine q_Met.mk htr (by decide +kernel) rfl (List.forall_mem_cons.mpr ⟨rfl, List.forall_mem_cons.mpr ⟨rfl, fun _ h => nomatch h⟩⟩) (Nat.le_of_ble_eq_true rfl) ?_
  refine e_iload_n (pc := 0) d_tr_childrenOf_0 rfl ?_
  refine e_bipush (pc := 1) d_tr_childrenOf_1 (v := (nI (43))) rfl ?_
  refine e_icmp_ltN (pc := 3) (tgt := 8) d_tr_childrenOf_3 (by decide) (by omega) (by omega) (fun c => ?_) (fun c => ?_)
  · refine e_iconst (pc := 8) d_tr_childrenOf_8 (v := (nI (0))) rfl ?_
    refine e_istore_n (pc := 9) d_tr_childrenOf_9 (by decide) ?_
    refine e_iconst (pc := 10) d_tr_childrenOf_10 (v := (nI (0))) rfl ?_
    refine e_istore_n (pc := 11) d_tr_childrenOf_11 (by decide) ?_
    rw [if_pos c]
    exact lp_tr_childrenOf htr hT c 7 0 (by omega) (by omega)
  · refine e_iconst (pc := 6) d_tr_childrenOf_6 (v := (nI (0))) rfl ?_
    exact e_iret (pc := 7) d_tr_childrenOf_7 rfl (⟨by rw [if_neg (by omega)]; rfl, rfl, rfl⟩)
set_option maxHeartbeats 4000000 in
set_option maxRecDepth 100000 in
theorem lp_tr_dropOwned {l : Launch} {G : q_G} (htr : l.stackTraces = false) {h : q_H} {N t : Nat} {dt vr ow nx : Nat → Int32} {s : Int32} (ho : h t = some (tr_ob t)) : ∀ (g k : Nat), 259 < k + g → 1 ≤ k ∧ k ≤ 259 → q_Ev l G m_tr_dropOwned 1 21 0 0 2 [some (.ref (t)), some (.int (s)), some (.int (nI (k)))] [] (tr_put h t dt (owdK vr ow s k) (owdK ow ow s k) nx) N (q_To none (tr_put h t dt (owdK vr ow s 259) (owdK ow ow s 259) nx) N) := by
  intro g
  induction g with
  | zero => intro k hg hk; omega
  | succ g ih =>
    intro k hg hk
    have hT : tr_At (tr_put h t dt (owdK vr ow s k) (owdK ow ow s k) nx) t dt (owdK vr ow s k) (owdK ow ow s k) nx := tr_put_at ho
    refine e_iload_n (pc := 2) d_tr_dropOwned_2 rfl ?_
    refine e_sipush (pc := 3) d_tr_dropOwned_3 (v := (nI (259))) rfl ?_
    refine e_icmp_geN (pc := 6) (tgt := 30) d_tr_dropOwned_6 (by decide) (by omega) (by omega) (fun c => ?_) (fun c => ?_)
    · have hkn : k = 259 := by omega
      subst hkn
      exact e_vret (pc := 30) d_tr_dropOwned_30 rfl (⟨rfl, rfl, rfl⟩)
    · refine e_aload_n (pc := 9) d_tr_dropOwned_9 rfl ?_
      refine e_get (pc := 10) d_tr_dropOwned_10 fl_tr_18 hT.1 rfl ?_
      refine e_iload_n (pc := 13) d_tr_dropOwned_13 rfl ?_
      refine e_ialdN (pc := 14) d_tr_dropOwned_14 hT.2.2.2.1 (by omega) (by decide) ?_
      refine e_iload_n (pc := 15) d_tr_dropOwned_15 rfl ?_
      rw [owdK_at]
      refine e_icmp_ne (pc := 16) (tgt := 24) d_tr_dropOwned_16 (by decide) (fun c2 => ?_) (fun c2 => ?_)
      · refine e_iincN (pc := 24) d_tr_dropOwned_24 (a := k) (b := 1) rfl rfl (by decide) ?_
        refine e_goto (pc := 27) (tgt := 2) d_tr_dropOwned_27 (by decide) ?_
        have := ih (k + 1) (by omega) (by omega)
        rw [← owdK_n c2, ← owdK_n c2] at this
        exact this
      · refine e_aload_n (pc := 19) d_tr_dropOwned_19 rfl ?_
        refine e_iload_n (pc := 20) d_tr_dropOwned_20 rfl ?_
        refine e_callV (As := [.int (nI (k))]) (st := []) (cc2 := 0) (ss2 := 0) (pc := 21) d_tr_dropOwned_21 rfl cv_tr_45 hT.1 rfl (c_tr_dropNode htr hT c) rfl (by decide) (by decide) (by omega) (by omega) (Nat.le_of_ble_eq_true rfl) (fun _ _ _ hq => nomatch hq.1) (fun r h2 N2 hq => ?_)
        obtain ⟨hr, e1, e2⟩ := hq
        cases hr
        rw [e1, e2]
        clear e1 e2
        show q_Ev l G m_tr_dropOwned 1 21 0 0 24 [some (.ref (t)), some (.int (s)), some (.int (nI (k)))] [] _ N _
        rw [tr_u2, tr_u3, owdK_y hk.1 c2, owdK_y hk.1 c2]
        refine e_iincN (pc := 24) d_tr_dropOwned_24 (a := k) (b := 1) rfl rfl (by decide) ?_
        refine e_goto (pc := 27) (tgt := 2) d_tr_dropOwned_27 (by decide) ?_
        exact ih (k + 1) (by omega) (by omega)
set_option maxHeartbeats 4000000 in
set_option maxRecDepth 100000 in
theorem c_tr_dropOwned {l : Launch} {G : q_G} (htr : l.stackTraces = false) {h : q_H} {N : Nat} {t : Nat} {dt vr ow nx : Nat → Int32} (hT : tr_At h t dt vr ow nx) {s : Int32} : q_Met l G m_tr_dropOwned 1 21 0 0 [.ref (t), .int (s)] h N (q_To none (tr_put h t dt (owdK vr ow s 259) (owdK ow ow s 259) nx) N) := by
  refine q_Met.mk htr (by decide +kernel) rfl (List.forall_mem_cons.mpr ⟨rfl, List.forall_mem_cons.mpr ⟨rfl, fun _ h => nomatch h⟩⟩) (Nat.le_of_ble_eq_true rfl) ?_
  refine e_iconst (pc := 0) d_tr_dropOwned_0 (v := (nI (1))) rfl ?_
  refine e_istore_n (pc := 1) d_tr_dropOwned_1 (by decide) ?_
  have := lp_tr_dropOwned (l := l) (G := G) htr (N := N) (dt := dt) (vr := vr) (ow := ow) (nx := nx) (s := s) hT.1 260 1 (by omega) (by omega)
  rw [owdK_1, owdK_1, tr_put_id hT] at this
  exact this
