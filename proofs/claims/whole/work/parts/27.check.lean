/-! THE CLASS: its checks -/
/-- a check: it returns where ok, else it throws E; nothing changes -/
def q_Rq (ok : Prop) (E : String) (h : q_H) (N : Nat) : q_Q := fun o h' N' => h' = h ∧ N ≤ N' ∧ ((ok ∧ o = .inl none ∧ N' = N) ∨ (¬ ok ∧ o = .inr E))
def z_on (R : zR) (i : Nat) : Bool := v_up (z_V R i) && !v_al (z_V R i)
/-- LINKED -/
def z_lk (R : zR) (i : Nat) : Bool := match z_ld R with
  | none => false
  | some k => z_on R k && z_on R i
/-- QUORUM -/
def z_qr (R : zR) : Bool := decide (2 ≤ cntB (z_lk R) 3)
def z_ok (R : zR) : Prop := ∀ k, z_ld R = some k → k < 3
theorem q_of4 {x : Int32} (h : nI 0 ≤ x ∧ x ≤ nI 3) : ∃ j, j < 4 ∧ x = nI j := by
  obtain ⟨j, h1, h2⟩ := nI_of2 (x := x) (M := nI 3) (n := 3) (by decide) (fun z => absurd (Int32.lt_iff_toInt_lt.mp z) (by have := Int32.le_iff_toInt_le.mp h.1; exact Int.not_lt.mpr this)) h.2
  exact ⟨j, by omega, h2⟩
theorem q_ofN {x : Int32} {n : Nat} (hn : n < 2 ^ 31) (h : nI 0 ≤ x ∧ x ≤ nI n) : ∃ j, j ≤ n ∧ x = nI j := nI_of2 (x := x) (M := nI n) (n := n) (nI_toInt hn) (fun z => absurd (Int32.lt_iff_toInt_lt.mp z) (by have := Int32.le_iff_toInt_le.mp h.1; exact Int.not_lt.mpr this)) h.2
theorem i_nlt {x y : Int32} (h : ¬ x < y) : y ≤ x := Int32.le_iff_toInt_le.mpr (Int.not_lt.mp (fun z => h (Int32.lt_iff_toInt_lt.mpr z)))
theorem i_nle {x y : Int32} (h : ¬ x ≤ y) : y < x := Int32.lt_iff_toInt_lt.mpr (Int.not_le.mp (fun z => h (Int32.le_iff_toInt_le.mpr z)))
theorem i_ltn {x y : Int32} (h : x < y) : ¬ y ≤ x := fun z => absurd (Int32.lt_iff_toInt_lt.mp h) (Int.not_lt.mpr (Int32.le_iff_toInt_le.mp z))
set_option maxHeartbeats 4000000 in
set_option maxRecDepth 100000 in
theorem c_zs_requireRange {l : Launch} {G : q_G} (htr : l.stackTraces = false) {h : q_H} {N : Nat} {x a b : Int32} : q_Met l G m_zs_requireRange 6 85 1 6 [.int (x), .int (a), .int (b)] h N (q_Rq (a ≤ x ∧ x ≤ b) "java/lang/IllegalArgumentException" h N) := by
  refine q_Met.mk htr (by decide +kernel) rfl (List.forall_mem_cons.mpr ⟨rfl, List.forall_mem_cons.mpr ⟨rfl, List.forall_mem_cons.mpr ⟨rfl, fun _ h => nomatch h⟩⟩⟩) (Nat.le_of_ble_eq_true rfl) ?_
  refine e_iload_n (pc := 0) d_zs_requireRange_0 rfl ?_
  refine e_iload_n (pc := 1) d_zs_requireRange_1 rfl ?_
  refine e_icmp_lt (pc := 2) (tgt := 10) d_zs_requireRange_2 (by decide) (fun c => ?_) (fun c => ?_)
  · exact e_throw (pc := 10) rfl xx_zs_217 d_zs_requireRange_10 d_zs_requireRange_13 d_zs_requireRange_14 d_zs_requireRange_17 (by decide) (Nat.le_of_ble_eq_true rfl) (by omega) (by omega) (fun N2 hN => ⟨rfl, hN, Or.inr ⟨fun z => i_ltn c z.1, rfl⟩⟩)
  · refine e_iload_n (pc := 5) d_zs_requireRange_5 rfl ?_
    refine e_iload_n (pc := 6) d_zs_requireRange_6 rfl ?_
    refine e_icmp_le (pc := 7) (tgt := 18) d_zs_requireRange_7 (by decide) (fun c2 => ?_) (fun c2 => ?_)
    · exact e_vret (pc := 18) d_zs_requireRange_18 rfl (⟨rfl, Nat.le_refl _, Or.inl ⟨⟨i_nlt c, c2⟩, rfl, rfl⟩⟩)
    · exact e_throw (pc := 10) rfl xx_zs_217 d_zs_requireRange_10 d_zs_requireRange_13 d_zs_requireRange_14 d_zs_requireRange_17 (by decide) (Nat.le_of_ble_eq_true rfl) (by omega) (by omega) (fun N2 hN => ⟨rfl, hN, Or.inr ⟨fun z => c2 z.2, rfl⟩⟩)
set_option maxHeartbeats 4000000 in
set_option maxRecDepth 100000 in
theorem c_zs_requireSession {l : Launch} {G : q_G} (htr : l.stackTraces = false) {h : q_H} {N : Nat} {x : Int32} : q_Met l G m_zs_requireSession 7 107 1 6 [.int (x)] h N (q_Rq (nI 0 ≤ x ∧ x ≤ nI 3) "java/lang/IllegalArgumentException" h N) := by
  refine q_Met.mk htr (by decide +kernel) rfl (List.forall_mem_cons.mpr ⟨rfl, fun _ h => nomatch h⟩) (Nat.le_of_ble_eq_true rfl) ?_
  refine e_iload_n (pc := 0) d_zs_requireSession_0 rfl ?_
  refine e_iconst (pc := 1) d_zs_requireSession_1 (v := (nI (0))) rfl ?_
  refine e_iconst (pc := 2) d_zs_requireSession_2 (v := (nI (3))) rfl ?_
  refine e_callS (As := [.int (x), .int (nI (0)), .int (nI (3))]) (st := []) (cc2 := 0) (ss2 := 0) (pc := 3) d_zs_requireSession_3 rfl cs_zs_47 (c_zs_requireRange htr) rfl (by decide) (by decide) (by omega) (by omega) (Nat.le_of_ble_eq_true rfl) (fun _ _ _ hq => ⟨hq.1, hq.2.1, hq.2.2.elim (fun z => nomatch z.2.1) (fun z => Or.inr z)⟩) (fun r h2 N2 hq => ?_)
  obtain ⟨e1, -, ⟨hok, hr, e2⟩ | ⟨-, hr⟩⟩ := hq; rotate_left; exact nomatch hr
  cases hr
  rw [e1, e2]
  clear e1 e2
  show q_Ev l G m_zs_requireSession 7 107 0 0 6 [some (.int (x))] [] h N _
  exact e_vret (pc := 6) d_zs_requireSession_6 rfl (⟨rfl, Nat.le_refl _, Or.inl ⟨hok, rfl, rfl⟩⟩)
set_option maxHeartbeats 4000000 in
set_option maxRecDepth 100000 in
theorem c_zs_requireServer {l : Launch} {G : q_G} (htr : l.stackTraces = false) {h : q_H} {N : Nat} {x : Int32} : q_Met l G m_zs_requireServer 7 107 1 6 [.int (x)] h N (q_Rq (nI 0 ≤ x ∧ x ≤ nI 2) "java/lang/IllegalArgumentException" h N) := by
  refine q_Met.mk htr (by decide +kernel) rfl (List.forall_mem_cons.mpr ⟨rfl, fun _ h => nomatch h⟩) (Nat.le_of_ble_eq_true rfl) ?_
  refine e_iload_n (pc := 0) d_zs_requireServer_0 rfl ?_
  refine e_iconst (pc := 1) d_zs_requireServer_1 (v := (nI (0))) rfl ?_
  refine e_iconst (pc := 2) d_zs_requireServer_2 (v := (nI (2))) rfl ?_
  refine e_callS (As := [.int (x), .int (nI (0)), .int (nI (2))]) (st := []) (cc2 := 0) (ss2 := 0) (pc := 3) d_zs_requireServer_3 rfl cs_zs_47 (c_zs_requireRange htr) rfl (by decide) (by decide) (by omega) (by omega) (Nat.le_of_ble_eq_true rfl) (fun _ _ _ hq => ⟨hq.1, hq.2.1, hq.2.2.elim (fun z => nomatch z.2.1) (fun z => Or.inr z)⟩) (fun r h2 N2 hq => ?_)
  obtain ⟨e1, -, ⟨hok, hr, e2⟩ | ⟨-, hr⟩⟩ := hq; rotate_left; exact nomatch hr
  cases hr
  rw [e1, e2]
  clear e1 e2
  show q_Ev l G m_zs_requireServer 7 107 0 0 6 [some (.int (x))] [] h N _
  exact e_vret (pc := 6) d_zs_requireServer_6 rfl (⟨rfl, Nat.le_refl _, Or.inl ⟨hok, rfl, rfl⟩⟩)
set_option maxHeartbeats 4000000 in
set_option maxRecDepth 100000 in
theorem c_zs_requirePath {l : Launch} {G : q_G} (htr : l.stackTraces = false) {h : q_H} {N : Nat} {x : Int32} : q_Met l G m_zs_requirePath 7 107 1 6 [.int (x)] h N (q_Rq (nI 0 ≤ x ∧ x ≤ nI 258) "java/lang/IllegalArgumentException" h N) := by
  refine q_Met.mk htr (by decide +kernel) rfl (List.forall_mem_cons.mpr ⟨rfl, fun _ h => nomatch h⟩) (Nat.le_of_ble_eq_true rfl) ?_
  refine e_iload_n (pc := 0) d_zs_requirePath_0 rfl ?_
  refine e_iconst (pc := 1) d_zs_requirePath_1 (v := (nI (0))) rfl ?_
  refine e_sipush (pc := 2) d_zs_requirePath_2 (v := (nI (258))) rfl ?_
  refine e_callS (As := [.int (x), .int (nI (0)), .int (nI (258))]) (st := []) (cc2 := 0) (ss2 := 0) (pc := 5) d_zs_requirePath_5 rfl cs_zs_47 (c_zs_requireRange htr) rfl (by decide) (by decide) (by omega) (by omega) (Nat.le_of_ble_eq_true rfl) (fun _ _ _ hq => ⟨hq.1, hq.2.1, hq.2.2.elim (fun z => nomatch z.2.1) (fun z => Or.inr z)⟩) (fun r h2 N2 hq => ?_)
  obtain ⟨e1, -, ⟨hok, hr, e2⟩ | ⟨-, hr⟩⟩ := hq; rotate_left; exact nomatch hr
  cases hr
  rw [e1, e2]
  clear e1 e2
  show q_Ev l G m_zs_requirePath 7 107 0 0 8 [some (.int (x))] [] h N _
  exact e_vret (pc := 8) d_zs_requirePath_8 rfl (⟨rfl, Nat.le_refl _, Or.inl ⟨hok, rfl, rfl⟩⟩)
set_option maxHeartbeats 4000000 in
set_option maxRecDepth 100000 in
theorem c_zs_requireVersion {l : Launch} {G : q_G} (htr : l.stackTraces = false) {h : q_H} {N : Nat} {x : Int32} : q_Met l G m_zs_requireVersion 6 85 1 6 [.int (x)] h N (q_Rq (-1 ≤ x) "java/lang/IllegalArgumentException" h N) := by
  refine q_Met.mk htr (by decide +kernel) rfl (List.forall_mem_cons.mpr ⟨rfl, fun _ h => nomatch h⟩) (Nat.le_of_ble_eq_true rfl) ?_
  refine e_iload_n (pc := 0) d_zs_requireVersion_0 rfl ?_
  refine e_iconst (pc := 1) d_zs_requireVersion_1 (v := (-1)) rfl ?_
  refine e_icmp_ge (pc := 2) (tgt := 13) d_zs_requireVersion_2 (by decide) (fun c => ?_) (fun c => ?_)
  · exact e_vret (pc := 13) d_zs_requireVersion_13 rfl (⟨rfl, Nat.le_refl _, Or.inl ⟨c, rfl, rfl⟩⟩)
  · exact e_throw (pc := 5) rfl xx_zs_217 d_zs_requireVersion_5 d_zs_requireVersion_8 d_zs_requireVersion_9 d_zs_requireVersion_12 (by decide) (Nat.le_of_ble_eq_true rfl) (by omega) (by omega) (fun N2 hN => ⟨rfl, hN, Or.inr ⟨c, rfl⟩⟩)
set_option maxHeartbeats 4000000 in
set_option maxRecDepth 100000 in
theorem c_zs_requireNode {l : Launch} {G : q_G} (htr : l.stackTraces = false) {h : q_H} {N : Nat} {t : Nat} {dt vr ow nx : Nat → Int32} (hT : tr_At h t dt vr ow nx) {p : Nat} (hp : p < 259) : q_Met l G m_zs_requireNode 6 85 1 6 [.ref (t), .int (nI (p))] h N (q_Rq (vr p ≠ -1) "java/util/NoSuchElementException" h N) := by
  refine q_Met.mk htr (by decide +kernel) rfl (List.forall_mem_cons.mpr ⟨rfl, List.forall_mem_cons.mpr ⟨rfl, fun _ h => nomatch h⟩⟩) (Nat.le_of_ble_eq_true rfl) ?_
  refine e_aload_n (pc := 0) d_zs_requireNode_0 rfl ?_
  refine e_iload_n (pc := 1) d_zs_requireNode_1 rfl ?_
  refine e_callV (As := [.int (nI (p))]) (st := []) (cc2 := 1) (ss2 := 6) (pc := 2) d_zs_requireNode_2 rfl cv_zs_127 hT.1 rfl (c_tr_has htr hT hp) rfl (by decide) (by decide) (by omega) (by omega) (Nat.le_of_ble_eq_true rfl) (fun _ _ _ hq => nomatch hq.1) (fun r h2 N2 hq => ?_)
  obtain ⟨hr, e1, e2⟩ := hq
  cases hr
  rw [e1, e2]
  clear e1 e2
  show q_Ev l G m_zs_requireNode 6 85 1 6 5 [some (.ref (t)), some (.int (nI (p)))] [.int (bI (decide (vr p ≠ -1)))] h N _
  refine e_ifB_ne (pc := 5) (tgt := 16) d_zs_requireNode_5 (by decide) (fun c => ?_) (fun c => ?_)
  · exact e_vret (pc := 16) d_zs_requireNode_16 rfl (⟨rfl, Nat.le_refl _, Or.inl ⟨of_decide_eq_true c, rfl, rfl⟩⟩)
  · exact e_throw (pc := 8) rfl xx_zs_169 d_zs_requireNode_8 d_zs_requireNode_11 d_zs_requireNode_12 d_zs_requireNode_15 (by decide) (Nat.le_of_ble_eq_true rfl) (by omega) (by omega) (fun N2 hN => ⟨rfl, hN, Or.inr ⟨of_decide_eq_false c, rfl⟩⟩)
set_option maxHeartbeats 4000000 in
set_option maxRecDepth 100000 in
theorem c_zs_isLinked {l : Launch} {G : q_G} (htr : l.stackTraces = false) {h : q_H} {N : Nat} {R : zR} (hR : z_ok R) {i : Nat} (hi : i < 3) : q_Met l G m_zs_isLinked 1 20 0 0 [.ref (1), .int (nI (i))] (zs_put h R) N (q_Id (some (.int (bI (z_lk R i)))) (zs_put h R) N) := by
  refine q_Met.mk htr (by decide +kernel) rfl (List.forall_mem_cons.mpr ⟨rfl, List.forall_mem_cons.mpr ⟨rfl, fun _ h => nomatch h⟩⟩) (Nat.le_of_ble_eq_true rfl) ?_
  refine e_aload_n (pc := 0) d_zs_isLinked_0 rfl ?_
  refine e_get (pc := 1) d_zs_isLinked_1 fl_zs_28 zs_g1 rfl ?_
  refine e_iconst (pc := 4) d_zs_isLinked_4 (v := (-1)) rfl ?_
  refine e_icmp_eq (pc := 5) (tgt := 39) d_zs_isLinked_5 (by decide) (fun c => ?_) (fun c => ?_)
  · have hl := (ldI_m1 hR).mp c
    refine e_iconst (pc := 39) d_zs_isLinked_39 (v := (bI (false))) rfl ?_
    exact e_retB (pc := 40) d_zs_isLinked_40 rfl (⟨by simp only [z_lk, hl], rfl, rfl⟩)
  · obtain ⟨k, hl⟩ : ∃ k, z_ld R = some k := by cases hx : z_ld R with | none => exact absurd (by rw [hx]; rfl) c | some k => exact ⟨k, rfl⟩
    have hk := hR k hl
    refine e_aload_n (pc := 8) d_zs_isLinked_8 rfl ?_
    refine e_get (pc := 9) d_zs_isLinked_9 fl_zs_11 zs_g1 rfl ?_
    refine e_aload_n (pc := 12) d_zs_isLinked_12 rfl ?_
    refine e_get (pc := 13) d_zs_isLinked_13 fl_zs_28 zs_g1 rfl ?_
    rw [show ldI (z_ld R) = nI k by rw [hl]; rfl]
    refine e_aaldN (pc := 16) d_zs_isLinked_16 zs_g2 (fun _ => rfl) (by omega) (by decide) rfl ?_
    refine e_callV (As := []) (st := []) (cc2 := 0) (ss2 := 0) (pc := 17) d_zs_isLinked_17 rfl cv_zs_191 (zs_v hk).1 rfl (c_sv_isOnline htr (zs_v hk)) rfl (by decide) (by decide) (by omega) (by omega) (Nat.le_of_ble_eq_true rfl) (fun _ _ _ hq => nomatch hq.1) (fun r h2 N2 hq => ?_)
    obtain ⟨hr, e1, e2⟩ := hq
    cases hr
    rw [e1, e2]
    clear e1 e2
    show q_Ev l G m_zs_isLinked 1 20 0 0 20 [some (.ref (1)), some (.int (nI (i)))] [.int (bI (z_on R k))] (zs_put h R) N _
    refine e_ifB_eq (pc := 20) (tgt := 39) d_zs_isLinked_20 (by decide) (fun c2 => ?_) (fun c2 => ?_)
    · refine e_iconst (pc := 39) d_zs_isLinked_39 (v := (bI (false))) rfl ?_
      exact e_retB (pc := 40) d_zs_isLinked_40 rfl (⟨by simp only [z_lk, hl, c2]; rfl, rfl, rfl⟩)
    · refine e_aload_n (pc := 23) d_zs_isLinked_23 rfl ?_
      refine e_get (pc := 24) d_zs_isLinked_24 fl_zs_11 zs_g1 rfl ?_
      refine e_iload_n (pc := 27) d_zs_isLinked_27 rfl ?_
      refine e_aaldN (pc := 28) d_zs_isLinked_28 zs_g2 (fun _ => rfl) (by omega) (by decide) rfl ?_
      refine e_callV (As := []) (st := []) (cc2 := 0) (ss2 := 0) (pc := 29) d_zs_isLinked_29 rfl cv_zs_191 (zs_v hi).1 rfl (c_sv_isOnline htr (zs_v hi)) rfl (by decide) (by decide) (by omega) (by omega) (Nat.le_of_ble_eq_true rfl) (fun _ _ _ hq => nomatch hq.1) (fun r h2 N2 hq => ?_)
      obtain ⟨hr, e1, e2⟩ := hq
      cases hr
      rw [e1, e2]
      clear e1 e2
      show q_Ev l G m_zs_isLinked 1 20 0 0 32 [some (.ref (1)), some (.int (nI (i)))] [.int (bI (z_on R i))] (zs_put h R) N _
      refine e_ifB_eq (pc := 32) (tgt := 39) d_zs_isLinked_32 (by decide) (fun c3 => ?_) (fun c3 => ?_)
      · refine e_iconst (pc := 39) d_zs_isLinked_39 (v := (bI (false))) rfl ?_
        exact e_retB (pc := 40) d_zs_isLinked_40 rfl (⟨by simp only [z_lk, hl, c2, c3]; rfl, rfl, rfl⟩)
      · refine e_iconst (pc := 35) d_zs_isLinked_35 (v := (bI (true))) rfl ?_
        refine e_goto (pc := 36) (tgt := 40) d_zs_isLinked_36 (by decide) ?_
        exact e_retB (pc := 40) d_zs_isLinked_40 rfl (⟨by simp only [z_lk, hl, c2, c3]; rfl, rfl, rfl⟩)
set_option maxHeartbeats 4000000 in
set_option maxRecDepth 100000 in
theorem lp_zs_hasQuorum {l : Launch} {G : q_G} (htr : l.stackTraces = false) {h : q_H} {N : Nat} {R : zR} (hR : z_ok R) : ∀ (g k : Nat), 3 < k + g → k ≤ 3 → q_Ev l G m_zs_hasQuorum 2 41 0 0 4 [some (.ref (1)), some (.int (nI (cntB (z_lk R) k))), some (.int (nI (k)))] [] (zs_put h R) N (q_Id (some (.int (bI (z_qr R)))) (zs_put h R) N) := by
  intro g
  induction g with
  | zero => intro k hg hk; omega
  | succ g ih =>
    intro k hg hk
    have hle := cntB_le (z_lk R) k
    refine e_iload_n (pc := 4) d_zs_hasQuorum_4 rfl ?_
    refine e_iconst (pc := 5) d_zs_hasQuorum_5 (v := (nI (3))) rfl ?_
    refine e_icmp_geN (pc := 6) (tgt := 26) d_zs_hasQuorum_6 (by decide) (by omega) (by omega) (fun c => ?_) (fun c => ?_)
    · have hkn : k = 3 := by omega
      subst hkn
      refine e_iload_n (pc := 26) d_zs_hasQuorum_26 rfl ?_
      refine e_iconst (pc := 27) d_zs_hasQuorum_27 (v := (nI (2))) rfl ?_
      refine e_icmp_ltN (pc := 28) (tgt := 35) d_zs_hasQuorum_28 (by decide) (by omega) (by omega) (fun c2 => ?_) (fun c2 => ?_)
      · refine e_iconst (pc := 35) d_zs_hasQuorum_35 (v := (bI (false))) rfl ?_
        exact e_retB (pc := 36) d_zs_hasQuorum_36 rfl (⟨by simp only [z_qr, decide_eq_false (show ¬ 2 ≤ cntB (z_lk R) 3 by omega)], rfl, rfl⟩)
      · refine e_iconst (pc := 31) d_zs_hasQuorum_31 (v := (bI (true))) rfl ?_
        refine e_goto (pc := 32) (tgt := 36) d_zs_hasQuorum_32 (by decide) ?_
        exact e_retB (pc := 36) d_zs_hasQuorum_36 rfl (⟨by simp only [z_qr, decide_eq_true c2], rfl, rfl⟩)
    · refine e_aload_n (pc := 9) d_zs_hasQuorum_9 rfl ?_
      refine e_iload_n (pc := 10) d_zs_hasQuorum_10 rfl ?_
      refine e_callV (As := [.int (nI (k))]) (st := []) (cc2 := 0) (ss2 := 0) (pc := 11) d_zs_hasQuorum_11 rfl cv_zs_58 zs_g1 rfl (c_zs_isLinked htr hR c) rfl (by decide) (by decide) (by omega) (by omega) (Nat.le_of_ble_eq_true rfl) (fun _ _ _ hq => nomatch hq.1) (fun r h2 N2 hq => ?_)
      obtain ⟨hr, e1, e2⟩ := hq
      cases hr
      rw [e1, e2]
      clear e1 e2
      show q_Ev l G m_zs_hasQuorum 2 41 0 0 14 [some (.ref (1)), some (.int (nI (cntB (z_lk R) k))), some (.int (nI (k)))] [.int (bI (z_lk R k))] (zs_put h R) N _
      refine e_ifB_eq (pc := 14) (tgt := 20) d_zs_hasQuorum_14 (by decide) (fun c2 => ?_) (fun c2 => ?_)
      · refine e_iincN (pc := 20) d_zs_hasQuorum_20 (a := k) (b := 1) rfl rfl (by decide) ?_
        refine e_goto (pc := 23) (tgt := 4) d_zs_hasQuorum_23 (by decide) ?_
        have e : cntB (z_lk R) (k + 1) = cntB (z_lk R) k := by simp only [cntB, c2]; rfl
        have := ih (k + 1) (by omega) (by omega)
        rw [e] at this
        exact this
      · refine e_iincN (pc := 17) d_zs_hasQuorum_17 (a := cntB (z_lk R) k) (b := 1) rfl rfl (by decide) ?_
        refine e_iincN (pc := 20) d_zs_hasQuorum_20 (a := k) (b := 1) rfl rfl (by decide) ?_
        refine e_goto (pc := 23) (tgt := 4) d_zs_hasQuorum_23 (by decide) ?_
        have e : cntB (z_lk R) (k + 1) = cntB (z_lk R) k + 1 := by simp only [cntB, c2]; rfl
        have := ih (k + 1) (by omega) (by omega)
        rw [e] at this
        exact this
set_option maxHeartbeats 4000000 in
set_option maxRecDepth 100000 in
theorem c_zs_hasQuorum {l : Launch} {G : q_G} (htr : l.stackTraces = false) {h : q_H} {N : Nat} {R : zR} (hR : z_ok R) : q_Met l G m_zs_hasQuorum 2 41 0 0 [.ref (1)] (zs_put h R) N (q_Id (some (.int (bI (z_qr R)))) (zs_put h R) N) := by
  refine q_Met.mk htr (by decide +kernel) rfl (List.forall_mem_cons.mpr ⟨rfl, fun _ h => nomatch h⟩) (Nat.le_of_ble_eq_true rfl) ?_
  refine e_iconst (pc := 0) d_zs_hasQuorum_0 (v := (nI (0))) rfl ?_
  refine e_istore_n (pc := 1) d_zs_hasQuorum_1 (by decide) ?_
  refine e_iconst (pc := 2) d_zs_hasQuorum_2 (v := (nI (0))) rfl ?_
  refine e_istore_n (pc := 3) d_zs_hasQuorum_3 (by decide) ?_
  exact lp_zs_hasQuorum htr hR 4 0 (by omega) (by omega)
set_option maxHeartbeats 4000000 in
set_option maxRecDepth 100000 in
theorem c_zs_requireQuorum {l : Launch} {G : q_G} (htr : l.stackTraces = false) {h : q_H} {N : Nat} {R : zR} (hR : z_ok R) : q_Met l G m_zs_requireQuorum 6 85 1 6 [.ref (1)] (zs_put h R) N (q_Rq (z_qr R = true) "java/lang/IllegalStateException" (zs_put h R) N) := by
  refine q_Met.mk htr (by decide +kernel) rfl (List.forall_mem_cons.mpr ⟨rfl, fun _ h => nomatch h⟩) (Nat.le_of_ble_eq_true rfl) ?_
  refine e_aload_n (pc := 0) d_zs_requireQuorum_0 rfl ?_
  refine e_callV (As := []) (st := []) (cc2 := 1) (ss2 := 6) (pc := 1) d_zs_requireQuorum_1 rfl cv_zs_62 zs_g1 rfl (c_zs_hasQuorum htr hR) rfl (by decide) (by decide) (by omega) (by omega) (Nat.le_of_ble_eq_true rfl) (fun _ _ _ hq => nomatch hq.1) (fun r h2 N2 hq => ?_)
  obtain ⟨hr, e1, e2⟩ := hq
  cases hr
  rw [e1, e2]
  clear e1 e2
  show q_Ev l G m_zs_requireQuorum 6 85 1 6 4 [some (.ref (1))] [.int (bI (z_qr R))] (zs_put h R) N _
  refine e_ifB_ne (pc := 4) (tgt := 15) d_zs_requireQuorum_4 (by decide) (fun c => ?_) (fun c => ?_)
  · exact e_vret (pc := 15) d_zs_requireQuorum_15 rfl (⟨rfl, Nat.le_refl _, Or.inl ⟨c, rfl, rfl⟩⟩)
  · exact e_throw (pc := 7) rfl xx_zs_66 d_zs_requireQuorum_7 d_zs_requireQuorum_10 d_zs_requireQuorum_11 d_zs_requireQuorum_14 (by decide) (Nat.le_of_ble_eq_true rfl) (by omega) (by omega) (fun N2 hN => ⟨rfl, hN, Or.inr ⟨by rw [c]; decide, rfl⟩⟩)
set_option maxHeartbeats 4000000 in
set_option maxRecDepth 100000 in
theorem c_zs_requireOpen {l : Launch} {G : q_G} (htr : l.stackTraces = false) {h : q_H} {N : Nat} {R : zR} {j : Nat} (hj : j < 4) : q_Met l G m_zs_requireOpen 6 85 1 6 [.ref (1), .int (nI (j))] (zs_put h R) N (q_Rq (s_op (z_S R j) = true) "java/lang/IllegalStateException" (zs_put h R) N) := by
  refine q_Met.mk htr (by decide +kernel) rfl (List.forall_mem_cons.mpr ⟨rfl, List.forall_mem_cons.mpr ⟨rfl, fun _ h => nomatch h⟩⟩) (Nat.le_of_ble_eq_true rfl) ?_
  refine e_aload_n (pc := 0) d_zs_requireOpen_0 rfl ?_
  refine e_get (pc := 1) d_zs_requireOpen_1 fl_zs_17 zs_g1 rfl ?_
  refine e_iload_n (pc := 4) d_zs_requireOpen_4 rfl ?_
  refine e_aaldN (pc := 5) d_zs_requireOpen_5 zs_g3 (fun _ => rfl) (by omega) (by decide) rfl ?_
  refine e_get (pc := 6) d_zs_requireOpen_6 fl_zs_51 (zs_s hj).1 rfl ?_
  refine e_ifB_ne (pc := 9) (tgt := 20) d_zs_requireOpen_9 (by decide) (fun c => ?_) (fun c => ?_)
  · exact e_vret (pc := 20) d_zs_requireOpen_20 rfl (⟨rfl, Nat.le_refl _, Or.inl ⟨c, rfl, rfl⟩⟩)
  · exact e_throw (pc := 12) rfl xx_zs_66 d_zs_requireOpen_12 d_zs_requireOpen_15 d_zs_requireOpen_16 d_zs_requireOpen_19 (by decide) (Nat.le_of_ble_eq_true rfl) (by omega) (by omega) (fun N2 hN => ⟨rfl, hN, Or.inr ⟨by rw [c]; decide, rfl⟩⟩)
set_option maxHeartbeats 4000000 in
set_option maxRecDepth 100000 in
theorem c_zs_isAt {l : Launch} {G : q_G} (htr : l.stackTraces = false) {h : q_H} {N : Nat} {R : zR} {j i : Nat} (hj : j < 4) (hi : i < 3) (hs : s_sv (z_S R j) < 3) : q_Met l G m_zs_isAt 0 0 0 0 [.ref (1), .int (nI (j)), .int (nI (i))] (zs_put h R) N (q_Id (some (.int (bI (s_op (z_S R j) && decide (s_sv (z_S R j) = i))))) (zs_put h R) N) := by
  refine q_Met.mk htr (by decide +kernel) rfl (List.forall_mem_cons.mpr ⟨rfl, List.forall_mem_cons.mpr ⟨rfl, List.forall_mem_cons.mpr ⟨rfl, fun _ h => nomatch h⟩⟩⟩) (Nat.le_of_ble_eq_true rfl) ?_
  refine e_aload_n (pc := 0) d_zs_isAt_0 rfl ?_
  refine e_get (pc := 1) d_zs_isAt_1 fl_zs_17 zs_g1 rfl ?_
  refine e_iload_n (pc := 4) d_zs_isAt_4 rfl ?_
  refine e_aaldN (pc := 5) d_zs_isAt_5 zs_g3 (fun _ => rfl) (by omega) (by decide) rfl ?_
  refine e_get (pc := 6) d_zs_isAt_6 fl_zs_51 (zs_s hj).1 rfl ?_
  refine e_ifB_eq (pc := 9) (tgt := 29) d_zs_isAt_9 (by decide) (fun c => ?_) (fun c => ?_)
  · refine e_iconst (pc := 29) d_zs_isAt_29 (v := (bI (false))) rfl ?_
    exact e_retB (pc := 30) d_zs_isAt_30 rfl (⟨by simp only [c]; rfl, rfl, rfl⟩)
  · refine e_aload_n (pc := 12) d_zs_isAt_12 rfl ?_
    refine e_get (pc := 13) d_zs_isAt_13 fl_zs_17 zs_g1 rfl ?_
    refine e_iload_n (pc := 16) d_zs_isAt_16 rfl ?_
    refine e_aaldN (pc := 17) d_zs_isAt_17 zs_g3 (fun _ => rfl) (by omega) (by decide) rfl ?_
    refine e_get (pc := 18) d_zs_isAt_18 fl_zs_100 (zs_s hj).1 rfl ?_
    refine e_iload_n (pc := 21) d_zs_isAt_21 rfl ?_
    refine e_icmp_neN (pc := 22) (tgt := 29) d_zs_isAt_22 (by decide) (by omega) (by omega) (fun c2 => ?_) (fun c2 => ?_)
    · refine e_iconst (pc := 29) d_zs_isAt_29 (v := (bI (false))) rfl ?_
      exact e_retB (pc := 30) d_zs_isAt_30 rfl (⟨by simp only [c, decide_eq_false c2]; rfl, rfl, rfl⟩)
    · refine e_iconst (pc := 25) d_zs_isAt_25 (v := (bI (true))) rfl ?_
      refine e_goto (pc := 26) (tgt := 30) d_zs_isAt_26 (by decide) ?_
      exact e_retB (pc := 30) d_zs_isAt_30 rfl (⟨by simp only [c, decide_eq_true c2]; rfl, rfl, rfl⟩)
