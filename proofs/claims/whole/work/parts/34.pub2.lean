/-! THE CLASS'S PUBLIC METHODS (2): what reads -/
theorem q_Z_t {c : Bool} {E0 E : String} {v : Option Value} {x : zX} {r : zO} {h' : q_H} {N N' : Nat} (hr : c = false → r = (.inr E0, x)) (hq : h' = zs_put (x_h x) (x_R x) ∧ N ≤ N' ∧ ((c = true ∧ (.inr E : Option Value ⊕ String) = .inl v ∧ N' = N) ∨ (c = false ∧ (.inr E : Option Value ⊕ String) = .inr E0))) (hN : x_N x ≤ N) : q_Z r (.inr E) h' N' := by
  obtain ⟨h1, h2, ⟨-, h3, -⟩ | ⟨h3, h4⟩⟩ := hq
  · cases h3
  · rw [hr h3]
    exact ⟨h4, h1, Nat.le_trans hN h2⟩
/-- the TREE that session j reads -/
abbrev z_tr (R : zR) (j : Nat) : zT := z_T R (s_sv (z_S R j))
/-- session j watches p -/
def z_w (R : zR) (j p : Nat) (k : Int32) : zR := z_sS R j ((upd (s_X (z_S R j)).1 p ((s_X (z_S R j)).1 p ||| k), (s_X (z_S R j)).2), (z_S R j).2)
def z_w1 (R : zR) (j p : Nat) (k : Int32) (b : Bool) : zR := if b then z_w R j p k else R
def z_get (s q : Int32) (b : Bool) (x : zX) : zO := if (nI 0 ≤ s ∧ s ≤ nI 3) ∧ (nI 0 ≤ q ∧ q ≤ nI 258) then if z_cn (x_R x) (nT s) = true then if (z_tr (x_R x) (nT s)).2.1 (nT q) ≠ -1 then (zI ((z_tr (x_R x) (nT s)).1 (nT q)), x_sR x (z_w1 (x_R x) (nT s) (nT q) (nI 1) b)) else (.inr NSE, x) else (.inr ISE, x) else (.inr IAE, x)
set_option maxHeartbeats 4000000 in
set_option maxRecDepth 100000 in
theorem c_zs_get {l : Launch} {G : q_G} (htr : l.stackTraces = false) {x : zX} {s q : Int32} {b : Bool} (hx : xOK x) : q_Met l G m_zs_get 8 127 16 96 [.ref (1), .int (s), .int (q), .int (bI (b))] (zs_put (x_h x) (x_R x)) (x_N x) (q_Z (z_get s q b x)) := by
  obtain ⟨r, hr0⟩ : ∃ r, r = z_get s q b x := ⟨_, rfl⟩
  rw [← hr0]
  refine q_Met.mk htr (by decide +kernel) rfl (List.forall_mem_cons.mpr ⟨rfl, List.forall_mem_cons.mpr ⟨rfl, List.forall_mem_cons.mpr ⟨rfl, List.forall_mem_cons.mpr ⟨rfl, fun _ h => nomatch h⟩⟩⟩⟩) (Nat.le_of_ble_eq_true rfl) ?_
  refine e_iload_n (pc := 0) d_zs_get_0 rfl ?_
  refine e_callS (As := [.int (s)]) (st := []) (cc2 := 15) (ss2 := 90) (pc := 1) d_zs_get_1 rfl cs_zs_40 (c_zs_requireSession htr) rfl (by decide) (by decide) (by omega) (by omega) (Nat.le_of_ble_eq_true rfl) (fun _ _ _ hq => q_Z_bad (fun z => by rw [hr0]; unfold z_get; rw [if_neg (fun u => z u.1)]) hq (Nat.le_refl _)) (fun r h2 N2 hq => ?_)
  obtain ⟨e1, -, ⟨hok, hr, e2⟩ | ⟨-, hr⟩⟩ := hq; rotate_left; exact nomatch hr
  cases hr
  rw [e1, e2]
  clear e1 e2
  show q_Ev l G m_zs_get 8 127 15 90 4 [some (.ref (1)), some (.int (s)), some (.int (q)), some (.int (bI (b))), none] [] (zs_put (x_h x) (x_R x)) (x_N x) _
  have hok1 := hok
  refine e_iload_n (pc := 4) d_zs_get_4 rfl ?_
  refine e_callS (As := [.int (q)]) (st := []) (cc2 := 14) (ss2 := 84) (pc := 5) d_zs_get_5 rfl cs_zs_142 (c_zs_requirePath htr) rfl (by decide) (by decide) (by omega) (by omega) (Nat.le_of_ble_eq_true rfl) (fun _ _ _ hq => q_Z_bad (fun z => by rw [hr0]; unfold z_get; rw [if_neg (fun u => z u.2)]) hq (Nat.le_refl _)) (fun r h2 N2 hq => ?_)
  obtain ⟨e1, -, ⟨hok, hr, e2⟩ | ⟨-, hr⟩⟩ := hq; rotate_left; exact nomatch hr
  cases hr
  rw [e1, e2]
  clear e1 e2
  show q_Ev l G m_zs_get 8 127 14 84 8 [some (.ref (1)), some (.int (s)), some (.int (q)), some (.int (bI (b))), none] [] (zs_put (x_h x) (x_R x)) (x_N x) _
  have hok2 := hok
  obtain ⟨j, hj, ej⟩ := q_ofL (n := 3) (by decide) hok1
  obtain ⟨p, hp, ep⟩ := q_ofL (n := 258) (by decide) hok2
  subst ej ep
  unfold z_get at hr0
  rw [if_pos ⟨hok1, hok2⟩, nT_n (by omega), nT_n (by omega)] at hr0
  have hs := (hx.1.2.1 j).1
  refine e_aload_n (pc := 8) d_zs_get_8 rfl ?_
  refine e_iload_n (pc := 9) d_zs_get_9 rfl ?_
  refine e_callV (As := [.int (nI (j))]) (st := []) (cc2 := 13) (ss2 := 78) (pc := 10) d_zs_get_10 rfl cv_zs_158 zs_g1 rfl (c_zs_treeOf htr hj hs) rfl (by decide) (by decide) (by omega) (by omega) (Nat.le_of_ble_eq_true rfl) (fun _ _ _ hq => q_Z_t (fun z => by rw [hr0, if_neg (by rw [z]; decide)]) hq (Nat.le_refl _)) (fun r h2 N2 hq => ?_)
  obtain ⟨e1, -, ⟨hok, hr, e2⟩ | ⟨-, hr⟩⟩ := hq; rotate_left; exact nomatch hr
  cases hr
  rw [e1, e2]
  clear e1 e2
  show q_Ev l G m_zs_get 8 127 13 78 13 [some (.ref (1)), some (.int (nI (j))), some (.int (nI (p))), some (.int (bI (b))), none] [.ref (9 + 7 * (s_sv (z_S (x_R x) j)) + 2)] (zs_put (x_h x) (x_R x)) (x_N x) _
  have hcn := hok
  rw [if_pos hcn] at hr0
  refine e_astore (pc := 13) d_zs_get_13 (by decide) ?_
  refine e_aload (pc := 15) d_zs_get_15 rfl ?_
  refine e_iload_n (pc := 17) d_zs_get_17 rfl ?_
  refine e_callS (As := [.ref (9 + 7 * (s_sv (z_S (x_R x) j)) + 2), .int (nI (p))]) (st := []) (cc2 := 12) (ss2 := 72) (pc := 18) d_zs_get_18 rfl cs_zs_109 (c_zs_requireNode htr (zs_t hs) hp) rfl (by decide) (by decide) (by omega) (by omega) (Nat.le_of_ble_eq_true rfl) (fun _ _ _ hq => q_Z_bad (fun z => by rw [hr0, if_neg z]) hq (Nat.le_refl _)) (fun r h2 N2 hq => ?_)
  obtain ⟨e1, -, ⟨hok, hr, e2⟩ | ⟨-, hr⟩⟩ := hq; rotate_left; exact nomatch hr
  cases hr
  rw [e1, e2]
  clear e1 e2
  show q_Ev l G m_zs_get 8 127 12 72 21 [some (.ref (1)), some (.int (nI (j))), some (.int (nI (p))), some (.int (bI (b))), some (.ref (9 + 7 * (s_sv (z_S (x_R x) j)) + 2))] [] (zs_put (x_h x) (x_R x)) (x_N x) _
  rw [if_pos hok] at hr0
  refine e_iload_n (pc := 21) d_zs_get_21 rfl ?_
  refine e_ifB_eq (pc := 22) (tgt := 36) d_zs_get_22 (by decide) (fun c => ?_) (fun c => ?_)
  · refine e_aload (pc := 36) d_zs_get_36 rfl ?_
    refine e_get (pc := 38) d_zs_get_38 fl_zs_166 (zs_t hs).1 rfl ?_
    refine e_iload_n (pc := 41) d_zs_get_41 rfl ?_
    refine e_ialdN (pc := 42) d_zs_get_42 (zs_t hs).2.1 (by omega) (by decide) ?_
    exact e_iret (pc := 43) d_zs_get_43 rfl (by rw [hr0, c]; exact ⟨rfl, rfl, Nat.le_refl _⟩)
  · refine e_aload_n (pc := 25) d_zs_get_25 rfl ?_
    refine e_get (pc := 26) d_zs_get_26 fl_zs_17 zs_g1 rfl ?_
    refine e_iload_n (pc := 29) d_zs_get_29 rfl ?_
    refine e_aaldN (pc := 30) d_zs_get_30 zs_g3 (fun _ => rfl) (by omega) (by decide) rfl ?_
    refine e_iload_n (pc := 31) d_zs_get_31 rfl ?_
    refine e_iconst (pc := 32) d_zs_get_32 (v := (nI (1))) rfl ?_
    refine e_callV (As := [.int (nI (p)), .int (nI 1)]) (st := []) (cc2 := 12) (ss2 := 72) (pc := 33) d_zs_get_33 rfl cv_zs_162 (zs_s hj).1 rfl (c_ss_watch htr (zs_s hj) (k := nI 1) hp) rfl (by decide) (by decide) (by omega) (by omega) (Nat.le_of_ble_eq_true rfl) (fun _ _ _ hq => nomatch hq.1) (fun r h2 N2 hq => ?_)
    obtain ⟨hr, e1, e2⟩ := hq
    cases hr
    rw [e1, e2]
    clear e1 e2
    show q_Ev l G m_zs_get 8 127 12 72 36 [some (.ref (1)), some (.int (nI (j))), some (.int (nI (p))), some (.int (bI (b))), some (.ref (9 + 7 * (s_sv (z_S (x_R x) j)) + 2))] [] _ (x_N x) _
    rw [zs_uS hj]
    refine q_Ev.hp (h1 := zs_put (x_h x) (z_w (x_R x) j p (nI 1))) rfl ?_
    refine e_aload (pc := 36) d_zs_get_36 rfl ?_
    refine e_get (pc := 38) d_zs_get_38 fl_zs_166 (zs_t (R := z_w (x_R x) j p (nI 1)) hs).1 rfl ?_
    refine e_iload_n (pc := 41) d_zs_get_41 rfl ?_
    refine e_ialdN (pc := 42) d_zs_get_42 (zs_t (R := z_w (x_R x) j p (nI 1)) hs).2.1 (by omega) (by decide) ?_
    exact e_iret (pc := 43) d_zs_get_43 rfl (by rw [hr0, c]; exact ⟨rfl, rfl, Nat.le_refl _⟩)
def z_exists (s q : Int32) (b : Bool) (x : zX) : zO := if (nI 0 ≤ s ∧ s ≤ nI 3) ∧ (nI 0 ≤ q ∧ q ≤ nI 258) then if z_cn (x_R x) (nT s) = true then (zI (bI (decide ((z_tr (x_R x) (nT s)).2.1 (nT q) ≠ -1))), x_sR x (z_w1 (x_R x) (nT s) (nT q) (nI 1) b)) else (.inr ISE, x) else (.inr IAE, x)
set_option maxHeartbeats 4000000 in
set_option maxRecDepth 100000 in
theorem c_zs_exists {l : Launch} {G : q_G} (htr : l.stackTraces = false) {x : zX} {s q : Int32} {b : Bool} (hx : xOK x) : q_Met l G m_zs_exists 8 127 16 96 [.ref (1), .int (s), .int (q), .int (bI (b))] (zs_put (x_h x) (x_R x)) (x_N x) (q_Z (z_exists s q b x)) := by
  obtain ⟨r, hr0⟩ : ∃ r, r = z_exists s q b x := ⟨_, rfl⟩
  rw [← hr0]
  refine q_Met.mk htr (by decide +kernel) rfl (List.forall_mem_cons.mpr ⟨rfl, List.forall_mem_cons.mpr ⟨rfl, List.forall_mem_cons.mpr ⟨rfl, List.forall_mem_cons.mpr ⟨rfl, fun _ h => nomatch h⟩⟩⟩⟩) (Nat.le_of_ble_eq_true rfl) ?_
  refine e_iload_n (pc := 0) d_zs_exists_0 rfl ?_
  refine e_callS (As := [.int (s)]) (st := []) (cc2 := 15) (ss2 := 90) (pc := 1) d_zs_exists_1 rfl cs_zs_40 (c_zs_requireSession htr) rfl (by decide) (by decide) (by omega) (by omega) (Nat.le_of_ble_eq_true rfl) (fun _ _ _ hq => q_Z_bad (fun z => by rw [hr0]; unfold z_exists; rw [if_neg (fun u => z u.1)]) hq (Nat.le_refl _)) (fun r h2 N2 hq => ?_)
  obtain ⟨e1, -, ⟨hok, hr, e2⟩ | ⟨-, hr⟩⟩ := hq; rotate_left; exact nomatch hr
  cases hr
  rw [e1, e2]
  clear e1 e2
  show q_Ev l G m_zs_exists 8 127 15 90 4 [some (.ref (1)), some (.int (s)), some (.int (q)), some (.int (bI (b))), none] [] (zs_put (x_h x) (x_R x)) (x_N x) _
  have hok1 := hok
  refine e_iload_n (pc := 4) d_zs_exists_4 rfl ?_
  refine e_callS (As := [.int (q)]) (st := []) (cc2 := 14) (ss2 := 84) (pc := 5) d_zs_exists_5 rfl cs_zs_142 (c_zs_requirePath htr) rfl (by decide) (by decide) (by omega) (by omega) (Nat.le_of_ble_eq_true rfl) (fun _ _ _ hq => q_Z_bad (fun z => by rw [hr0]; unfold z_exists; rw [if_neg (fun u => z u.2)]) hq (Nat.le_refl _)) (fun r h2 N2 hq => ?_)
  obtain ⟨e1, -, ⟨hok, hr, e2⟩ | ⟨-, hr⟩⟩ := hq; rotate_left; exact nomatch hr
  cases hr
  rw [e1, e2]
  clear e1 e2
  show q_Ev l G m_zs_exists 8 127 14 84 8 [some (.ref (1)), some (.int (s)), some (.int (q)), some (.int (bI (b))), none] [] (zs_put (x_h x) (x_R x)) (x_N x) _
  have hok2 := hok
  obtain ⟨j, hj, ej⟩ := q_ofL (n := 3) (by decide) hok1
  obtain ⟨p, hp, ep⟩ := q_ofL (n := 258) (by decide) hok2
  subst ej ep
  unfold z_exists at hr0
  rw [if_pos ⟨hok1, hok2⟩, nT_n (by omega), nT_n (by omega)] at hr0
  have hs := (hx.1.2.1 j).1
  refine e_aload_n (pc := 8) d_zs_exists_8 rfl ?_
  refine e_iload_n (pc := 9) d_zs_exists_9 rfl ?_
  refine e_callV (As := [.int (nI (j))]) (st := []) (cc2 := 13) (ss2 := 78) (pc := 10) d_zs_exists_10 rfl cv_zs_158 zs_g1 rfl (c_zs_treeOf htr hj hs) rfl (by decide) (by decide) (by omega) (by omega) (Nat.le_of_ble_eq_true rfl) (fun _ _ _ hq => q_Z_t (fun z => by rw [hr0, if_neg (by rw [z]; decide)]) hq (Nat.le_refl _)) (fun r h2 N2 hq => ?_)
  obtain ⟨e1, -, ⟨hok, hr, e2⟩ | ⟨-, hr⟩⟩ := hq; rotate_left; exact nomatch hr
  cases hr
  rw [e1, e2]
  clear e1 e2
  show q_Ev l G m_zs_exists 8 127 13 78 13 [some (.ref (1)), some (.int (nI (j))), some (.int (nI (p))), some (.int (bI (b))), none] [.ref (9 + 7 * (s_sv (z_S (x_R x) j)) + 2)] (zs_put (x_h x) (x_R x)) (x_N x) _
  have hcn := hok
  rw [if_pos hcn] at hr0
  refine e_astore (pc := 13) d_zs_exists_13 (by decide) ?_
  refine e_iload_n (pc := 15) d_zs_exists_15 rfl ?_
  refine e_ifB_eq (pc := 16) (tgt := 30) d_zs_exists_16 (by decide) (fun c => ?_) (fun c => ?_)
  · refine e_aload (pc := 30) d_zs_exists_30 rfl ?_
    refine e_iload_n (pc := 32) d_zs_exists_32 rfl ?_
    refine e_callV (As := [.int (nI (p))]) (st := []) (cc2 := 13) (ss2 := 78) (pc := 33) d_zs_exists_33 rfl cv_zs_127 (zs_t hs).1 rfl (c_tr_has htr (zs_t hs) hp) rfl (by decide) (by decide) (by omega) (by omega) (Nat.le_of_ble_eq_true rfl) (fun _ _ _ hq => nomatch hq.1) (fun r h2 N2 hq => ?_)
    obtain ⟨hr, e1, e2⟩ := hq
    cases hr
    rw [e1, e2]
    clear e1 e2
    show q_Ev l G m_zs_exists 8 127 13 78 36 [some (.ref (1)), some (.int (nI (j))), some (.int (nI (p))), some (.int (bI (b))), some (.ref (9 + 7 * (s_sv (z_S (x_R x) j)) + 2))] [.int (bI (decide ((z_tr (x_R x) j).2.1 p ≠ -1)))] (zs_put (x_h x) (x_R x)) (x_N x) _
    exact e_retB (pc := 36) d_zs_exists_36 rfl (by rw [hr0, c]; exact ⟨rfl, rfl, Nat.le_refl _⟩)
  · refine e_aload_n (pc := 19) d_zs_exists_19 rfl ?_
    refine e_get (pc := 20) d_zs_exists_20 fl_zs_17 zs_g1 rfl ?_
    refine e_iload_n (pc := 23) d_zs_exists_23 rfl ?_
    refine e_aaldN (pc := 24) d_zs_exists_24 zs_g3 (fun _ => rfl) (by omega) (by decide) rfl ?_
    refine e_iload_n (pc := 25) d_zs_exists_25 rfl ?_
    refine e_iconst (pc := 26) d_zs_exists_26 (v := (nI (1))) rfl ?_
    refine e_callV (As := [.int (nI (p)), .int (nI 1)]) (st := []) (cc2 := 13) (ss2 := 78) (pc := 27) d_zs_exists_27 rfl cv_zs_162 (zs_s hj).1 rfl (c_ss_watch htr (zs_s hj) (k := nI 1) hp) rfl (by decide) (by decide) (by omega) (by omega) (Nat.le_of_ble_eq_true rfl) (fun _ _ _ hq => nomatch hq.1) (fun r h2 N2 hq => ?_)
    obtain ⟨hr, e1, e2⟩ := hq
    cases hr
    rw [e1, e2]
    clear e1 e2
    show q_Ev l G m_zs_exists 8 127 13 78 30 [some (.ref (1)), some (.int (nI (j))), some (.int (nI (p))), some (.int (bI (b))), some (.ref (9 + 7 * (s_sv (z_S (x_R x) j)) + 2))] [] _ (x_N x) _
    rw [zs_uS hj]
    refine q_Ev.hp (h1 := zs_put (x_h x) (z_w (x_R x) j p (nI 1))) rfl ?_
    refine e_aload (pc := 30) d_zs_exists_30 rfl ?_
    refine e_iload_n (pc := 32) d_zs_exists_32 rfl ?_
    refine e_callV (As := [.int (nI (p))]) (st := []) (cc2 := 13) (ss2 := 78) (pc := 33) d_zs_exists_33 rfl cv_zs_127 (zs_t (R := z_w (x_R x) j p (nI 1)) hs).1 rfl (c_tr_has htr (zs_t (R := z_w (x_R x) j p (nI 1)) hs) hp) rfl (by decide) (by decide) (by omega) (by omega) (Nat.le_of_ble_eq_true rfl) (fun _ _ _ hq => nomatch hq.1) (fun r h2 N2 hq => ?_)
    obtain ⟨hr, e1, e2⟩ := hq
    cases hr
    rw [e1, e2]
    clear e1 e2
    show q_Ev l G m_zs_exists 8 127 13 78 36 [some (.ref (1)), some (.int (nI (j))), some (.int (nI (p))), some (.int (bI (b))), some (.ref (9 + 7 * (s_sv (z_S (x_R x) j)) + 2))] [.int (bI (decide ((z_tr (x_R x) j).2.1 p ≠ -1)))] (zs_put (x_h x) (z_w (x_R x) j p (nI 1))) (x_N x) _
    exact e_retB (pc := 36) d_zs_exists_36 rfl (by rw [hr0, c]; exact ⟨rfl, rfl, Nat.le_refl _⟩)
def z_children (s q : Int32) (b : Bool) (x : zX) : zO := if (nI 0 ≤ s ∧ s ≤ nI 3) ∧ (nI 0 ≤ q ∧ q ≤ nI 42) then if z_cn (x_R x) (nT s) = true then if (z_tr (x_R x) (nT s)).2.1 (nT q) ≠ -1 then (zI (kidB (fun q => decide ((z_tr (x_R x) (nT s)).2.1 q ≠ -1)) (nT q) 6), x_sR x (z_w1 (x_R x) (nT s) (nT q) (nI 2) b)) else (.inr NSE, x) else (.inr ISE, x) else (.inr IAE, x)
set_option maxHeartbeats 4000000 in
set_option maxRecDepth 100000 in
theorem c_zs_children {l : Launch} {G : q_G} (htr : l.stackTraces = false) {x : zX} {s q : Int32} {b : Bool} (hx : xOK x) : q_Met l G m_zs_children 8 127 16 96 [.ref (1), .int (s), .int (q), .int (bI (b))] (zs_put (x_h x) (x_R x)) (x_N x) (q_Z (z_children s q b x)) := by
  obtain ⟨r, hr0⟩ : ∃ r, r = z_children s q b x := ⟨_, rfl⟩
  rw [← hr0]
  refine q_Met.mk htr (by decide +kernel) rfl (List.forall_mem_cons.mpr ⟨rfl, List.forall_mem_cons.mpr ⟨rfl, List.forall_mem_cons.mpr ⟨rfl, List.forall_mem_cons.mpr ⟨rfl, fun _ h => nomatch h⟩⟩⟩⟩) (Nat.le_of_ble_eq_true rfl) ?_
  refine e_iload_n (pc := 0) d_zs_children_0 rfl ?_
  refine e_callS (As := [.int (s)]) (st := []) (cc2 := 15) (ss2 := 90) (pc := 1) d_zs_children_1 rfl cs_zs_40 (c_zs_requireSession htr) rfl (by decide) (by decide) (by omega) (by omega) (Nat.le_of_ble_eq_true rfl) (fun _ _ _ hq => q_Z_bad (fun z => by rw [hr0]; unfold z_children; rw [if_neg (fun u => z u.1)]) hq (Nat.le_refl _)) (fun r h2 N2 hq => ?_)
  obtain ⟨e1, -, ⟨hok, hr, e2⟩ | ⟨-, hr⟩⟩ := hq; rotate_left; exact nomatch hr
  cases hr
  rw [e1, e2]
  clear e1 e2
  show q_Ev l G m_zs_children 8 127 15 90 4 [some (.ref (1)), some (.int (s)), some (.int (q)), some (.int (bI (b))), none] [] (zs_put (x_h x) (x_R x)) (x_N x) _
  have hok1 := hok
  refine e_iload_n (pc := 4) d_zs_children_4 rfl ?_
  refine e_iconst (pc := 5) d_zs_children_5 (v := (nI (0))) rfl ?_
  refine e_bipush (pc := 6) d_zs_children_6 (v := (nI (42))) rfl ?_
  refine e_callS (As := [.int (q), .int (nI (0)), .int (nI (42))]) (st := []) (cc2 := 14) (ss2 := 84) (pc := 8) d_zs_children_8 rfl cs_zs_47 (c_zs_requireRange htr) rfl (by decide) (by decide) (by omega) (by omega) (Nat.le_of_ble_eq_true rfl) (fun _ _ _ hq => q_Z_bad (fun z => by rw [hr0]; unfold z_children; rw [if_neg (fun u => z u.2)]) hq (Nat.le_refl _)) (fun r h2 N2 hq => ?_)
  obtain ⟨e1, -, ⟨hok, hr, e2⟩ | ⟨-, hr⟩⟩ := hq; rotate_left; exact nomatch hr
  cases hr
  rw [e1, e2]
  clear e1 e2
  show q_Ev l G m_zs_children 8 127 14 84 11 [some (.ref (1)), some (.int (s)), some (.int (q)), some (.int (bI (b))), none] [] (zs_put (x_h x) (x_R x)) (x_N x) _
  have hok2 := hok
  obtain ⟨j, hj, ej⟩ := q_ofL (n := 3) (by decide) hok1
  obtain ⟨p, hp, ep⟩ := q_ofL (n := 42) (by decide) hok2
  subst ej ep
  unfold z_children at hr0
  rw [if_pos ⟨hok1, hok2⟩, nT_n (by omega), nT_n (by omega)] at hr0
  have hs := (hx.1.2.1 j).1
  have hp43 : p < 43 := hp
  have hp : p < 259 := by omega
  refine e_aload_n (pc := 11) d_zs_children_11 rfl ?_
  refine e_iload_n (pc := 12) d_zs_children_12 rfl ?_
  refine e_callV (As := [.int (nI (j))]) (st := []) (cc2 := 13) (ss2 := 78) (pc := 13) d_zs_children_13 rfl cv_zs_158 zs_g1 rfl (c_zs_treeOf htr hj hs) rfl (by decide) (by decide) (by omega) (by omega) (Nat.le_of_ble_eq_true rfl) (fun _ _ _ hq => q_Z_t (fun z => by rw [hr0, if_neg (by rw [z]; decide)]) hq (Nat.le_refl _)) (fun r h2 N2 hq => ?_)
  obtain ⟨e1, -, ⟨hok, hr, e2⟩ | ⟨-, hr⟩⟩ := hq; rotate_left; exact nomatch hr
  cases hr
  rw [e1, e2]
  clear e1 e2
  show q_Ev l G m_zs_children 8 127 13 78 16 [some (.ref (1)), some (.int (nI (j))), some (.int (nI (p))), some (.int (bI (b))), none] [.ref (9 + 7 * (s_sv (z_S (x_R x) j)) + 2)] (zs_put (x_h x) (x_R x)) (x_N x) _
  have hcn := hok
  rw [if_pos hcn] at hr0
  refine e_astore (pc := 16) d_zs_children_16 (by decide) ?_
  refine e_aload (pc := 18) d_zs_children_18 rfl ?_
  refine e_iload_n (pc := 20) d_zs_children_20 rfl ?_
  refine e_callS (As := [.ref (9 + 7 * (s_sv (z_S (x_R x) j)) + 2), .int (nI (p))]) (st := []) (cc2 := 12) (ss2 := 72) (pc := 21) d_zs_children_21 rfl cs_zs_109 (c_zs_requireNode htr (zs_t hs) hp) rfl (by decide) (by decide) (by omega) (by omega) (Nat.le_of_ble_eq_true rfl) (fun _ _ _ hq => q_Z_bad (fun z => by rw [hr0, if_neg z]) hq (Nat.le_refl _)) (fun r h2 N2 hq => ?_)
  obtain ⟨e1, -, ⟨hok, hr, e2⟩ | ⟨-, hr⟩⟩ := hq; rotate_left; exact nomatch hr
  cases hr
  rw [e1, e2]
  clear e1 e2
  show q_Ev l G m_zs_children 8 127 12 72 24 [some (.ref (1)), some (.int (nI (j))), some (.int (nI (p))), some (.int (bI (b))), some (.ref (9 + 7 * (s_sv (z_S (x_R x) j)) + 2))] [] (zs_put (x_h x) (x_R x)) (x_N x) _
  rw [if_pos hok] at hr0
  refine e_iload_n (pc := 24) d_zs_children_24 rfl ?_
  refine e_ifB_eq (pc := 25) (tgt := 39) d_zs_children_25 (by decide) (fun c => ?_) (fun c => ?_)
  · refine e_aload (pc := 39) d_zs_children_39 rfl ?_
    refine e_iload_n (pc := 41) d_zs_children_41 rfl ?_
    refine e_callV (As := [.int (nI (p))]) (st := []) (cc2 := 12) (ss2 := 72) (pc := 42) d_zs_children_42 rfl cv_zs_155 (zs_t hs).1 rfl (c_tr_childrenOf htr (zs_t hs) (p := p) (by omega)) rfl (by decide) (by decide) (by omega) (by omega) (Nat.le_of_ble_eq_true rfl) (fun _ _ _ hq => nomatch hq.1) (fun r h2 N2 hq => ?_)
    obtain ⟨hr, e1, e2⟩ := hq
    cases hr
    rw [e1, e2]
    clear e1 e2
    show q_Ev l G m_zs_children 8 127 12 72 45 [some (.ref (1)), some (.int (nI (j))), some (.int (nI (p))), some (.int (bI (b))), some (.ref (9 + 7 * (s_sv (z_S (x_R x) j)) + 2))] [.int (if p < 43 then kidB (fun q => decide ((z_tr (x_R x) j).2.1 q ≠ -1)) p 6 else 0)] (zs_put (x_h x) (x_R x)) (x_N x) _
    exact e_iret (pc := 45) d_zs_children_45 rfl (by rw [hr0, c, if_pos hp43]; exact ⟨rfl, rfl, Nat.le_refl _⟩)
  · refine e_aload_n (pc := 28) d_zs_children_28 rfl ?_
    refine e_get (pc := 29) d_zs_children_29 fl_zs_17 zs_g1 rfl ?_
    refine e_iload_n (pc := 32) d_zs_children_32 rfl ?_
    refine e_aaldN (pc := 33) d_zs_children_33 zs_g3 (fun _ => rfl) (by omega) (by decide) rfl ?_
    refine e_iload_n (pc := 34) d_zs_children_34 rfl ?_
    refine e_iconst (pc := 35) d_zs_children_35 (v := (nI (2))) rfl ?_
    refine e_callV (As := [.int (nI (p)), .int (nI 2)]) (st := []) (cc2 := 12) (ss2 := 72) (pc := 36) d_zs_children_36 rfl cv_zs_162 (zs_s hj).1 rfl (c_ss_watch htr (zs_s hj) (k := nI 2) hp) rfl (by decide) (by decide) (by omega) (by omega) (Nat.le_of_ble_eq_true rfl) (fun _ _ _ hq => nomatch hq.1) (fun r h2 N2 hq => ?_)
    obtain ⟨hr, e1, e2⟩ := hq
    cases hr
    rw [e1, e2]
    clear e1 e2
    show q_Ev l G m_zs_children 8 127 12 72 39 [some (.ref (1)), some (.int (nI (j))), some (.int (nI (p))), some (.int (bI (b))), some (.ref (9 + 7 * (s_sv (z_S (x_R x) j)) + 2))] [] _ (x_N x) _
    rw [zs_uS hj]
    refine q_Ev.hp (h1 := zs_put (x_h x) (z_w (x_R x) j p (nI 2))) rfl ?_
    refine e_aload (pc := 39) d_zs_children_39 rfl ?_
    refine e_iload_n (pc := 41) d_zs_children_41 rfl ?_
    refine e_callV (As := [.int (nI (p))]) (st := []) (cc2 := 12) (ss2 := 72) (pc := 42) d_zs_children_42 rfl cv_zs_155 (zs_t (R := z_w (x_R x) j p (nI 2)) hs).1 rfl (c_tr_childrenOf htr (zs_t (R := z_w (x_R x) j p (nI 2)) hs) (p := p) (by omega)) rfl (by decide) (by decide) (by omega) (by omega) (Nat.le_of_ble_eq_true rfl) (fun _ _ _ hq => nomatch hq.1) (fun r h2 N2 hq => ?_)
    obtain ⟨hr, e1, e2⟩ := hq
    cases hr
    rw [e1, e2]
    clear e1 e2
    show q_Ev l G m_zs_children 8 127 12 72 45 [some (.ref (1)), some (.int (nI (j))), some (.int (nI (p))), some (.int (bI (b))), some (.ref (9 + 7 * (s_sv (z_S (x_R x) j)) + 2))] [.int (if p < 43 then kidB (fun q => decide ((z_tr (x_R x) j).2.1 q ≠ -1)) p 6 else 0)] (zs_put (x_h x) (z_w (x_R x) j p (nI 2))) (x_N x) _
    exact e_iret (pc := 45) d_zs_children_45 rfl (by rw [hr0, c, if_pos hp43]; exact ⟨rfl, rfl, Nat.le_refl _⟩)
def z_fact (s q w : Int32) (x : zX) : zO := if (nI 0 ≤ s ∧ s ≤ nI 3) ∧ (nI 0 ≤ q ∧ q ≤ nI 258) ∧ (nI 0 ≤ w ∧ w ≤ nI 2) then if z_cn (x_R x) (nT s) = true then if (z_tr (x_R x) (nT s)).2.1 (nT q) ≠ -1 then (zI (if nT w = 0 then (z_tr (x_R x) (nT s)).2.1 (nT q) else if nT w = 1 then if nT q < 43 then (z_tr (x_R x) (nT s)).2.2.2 (nT q) else 0 else (z_tr (x_R x) (nT s)).2.2.1 (nT q)), x) else (.inr NSE, x) else (.inr ISE, x) else (.inr IAE, x)
set_option maxHeartbeats 4000000 in
set_option maxRecDepth 100000 in
theorem c_zs_fact {l : Launch} {G : q_G} (htr : l.stackTraces = false) {x : zX} {s q w : Int32} (hx : xOK x) : q_Met l G m_zs_fact 8 127 16 96 [.ref (1), .int (s), .int (q), .int (w)] (zs_put (x_h x) (x_R x)) (x_N x) (q_Z (z_fact s q w x)) := by
  obtain ⟨r, hr0⟩ : ∃ r, r = z_fact s q w x := ⟨_, rfl⟩
  rw [← hr0]
  refine q_Met.mk htr (by decide +kernel) rfl (List.forall_mem_cons.mpr ⟨rfl, List.forall_mem_cons.mpr ⟨rfl, List.forall_mem_cons.mpr ⟨rfl, List.forall_mem_cons.mpr ⟨rfl, fun _ h => nomatch h⟩⟩⟩⟩) (Nat.le_of_ble_eq_true rfl) ?_
  refine e_iload_n (pc := 0) d_zs_fact_0 rfl ?_
  refine e_callS (As := [.int (s)]) (st := []) (cc2 := 15) (ss2 := 90) (pc := 1) d_zs_fact_1 rfl cs_zs_40 (c_zs_requireSession htr) rfl (by decide) (by decide) (by omega) (by omega) (Nat.le_of_ble_eq_true rfl) (fun _ _ _ hq => q_Z_bad (fun z => by rw [hr0]; unfold z_fact; rw [if_neg (fun u => z u.1)]) hq (Nat.le_refl _)) (fun r h2 N2 hq => ?_)
  obtain ⟨e1, -, ⟨hok, hr, e2⟩ | ⟨-, hr⟩⟩ := hq; rotate_left; exact nomatch hr
  cases hr
  rw [e1, e2]
  clear e1 e2
  show q_Ev l G m_zs_fact 8 127 15 90 4 [some (.ref (1)), some (.int (s)), some (.int (q)), some (.int (w)), none] [] (zs_put (x_h x) (x_R x)) (x_N x) _
  have hok1 := hok
  refine e_iload_n (pc := 4) d_zs_fact_4 rfl ?_
  refine e_callS (As := [.int (q)]) (st := []) (cc2 := 14) (ss2 := 84) (pc := 5) d_zs_fact_5 rfl cs_zs_142 (c_zs_requirePath htr) rfl (by decide) (by decide) (by omega) (by omega) (Nat.le_of_ble_eq_true rfl) (fun _ _ _ hq => q_Z_bad (fun z => by rw [hr0]; unfold z_fact; rw [if_neg (fun u => z u.2.1)]) hq (Nat.le_refl _)) (fun r h2 N2 hq => ?_)
  obtain ⟨e1, -, ⟨hok, hr, e2⟩ | ⟨-, hr⟩⟩ := hq; rotate_left; exact nomatch hr
  cases hr
  rw [e1, e2]
  clear e1 e2
  show q_Ev l G m_zs_fact 8 127 14 84 8 [some (.ref (1)), some (.int (s)), some (.int (q)), some (.int (w)), none] [] (zs_put (x_h x) (x_R x)) (x_N x) _
  have hok2 := hok
  refine e_iload_n (pc := 8) d_zs_fact_8 rfl ?_
  refine e_iconst (pc := 9) d_zs_fact_9 (v := (nI (0))) rfl ?_
  refine e_iconst (pc := 10) d_zs_fact_10 (v := (nI (2))) rfl ?_
  refine e_callS (As := [.int (w), .int (nI (0)), .int (nI (2))]) (st := []) (cc2 := 13) (ss2 := 78) (pc := 11) d_zs_fact_11 rfl cs_zs_47 (c_zs_requireRange htr) rfl (by decide) (by decide) (by omega) (by omega) (Nat.le_of_ble_eq_true rfl) (fun _ _ _ hq => q_Z_bad (fun z => by rw [hr0]; unfold z_fact; rw [if_neg (fun u => z u.2.2)]) hq (Nat.le_refl _)) (fun r h2 N2 hq => ?_)
  obtain ⟨e1, -, ⟨hok, hr, e2⟩ | ⟨-, hr⟩⟩ := hq; rotate_left; exact nomatch hr
  cases hr
  rw [e1, e2]
  clear e1 e2
  show q_Ev l G m_zs_fact 8 127 13 78 14 [some (.ref (1)), some (.int (s)), some (.int (q)), some (.int (w)), none] [] (zs_put (x_h x) (x_R x)) (x_N x) _
  have hok3 := hok
  obtain ⟨j, hj, ej⟩ := q_ofL (n := 3) (by decide) hok1
  obtain ⟨p, hp, ep⟩ := q_ofL (n := 258) (by decide) hok2
  obtain ⟨m, hm, em⟩ := q_ofL (n := 2) (by decide) hok3
  subst ej ep em
  unfold z_fact at hr0
  rw [if_pos ⟨hok1, hok2, hok3⟩, nT_n (by omega), nT_n (by omega), nT_n (by omega)] at hr0
  have hs := (hx.1.2.1 j).1
  refine e_aload_n (pc := 14) d_zs_fact_14 rfl ?_
  refine e_iload_n (pc := 15) d_zs_fact_15 rfl ?_
  refine e_callV (As := [.int (nI (j))]) (st := []) (cc2 := 12) (ss2 := 72) (pc := 16) d_zs_fact_16 rfl cv_zs_158 zs_g1 rfl (c_zs_treeOf htr hj hs) rfl (by decide) (by decide) (by omega) (by omega) (Nat.le_of_ble_eq_true rfl) (fun _ _ _ hq => q_Z_t (fun z => by rw [hr0, if_neg (by rw [z]; decide)]) hq (Nat.le_refl _)) (fun r h2 N2 hq => ?_)
  obtain ⟨e1, -, ⟨hok, hr, e2⟩ | ⟨-, hr⟩⟩ := hq; rotate_left; exact nomatch hr
  cases hr
  rw [e1, e2]
  clear e1 e2
  show q_Ev l G m_zs_fact 8 127 12 72 19 [some (.ref (1)), some (.int (nI (j))), some (.int (nI (p))), some (.int (nI (m))), none] [.ref (9 + 7 * (s_sv (z_S (x_R x) j)) + 2)] (zs_put (x_h x) (x_R x)) (x_N x) _
  have hcn := hok
  rw [if_pos hcn] at hr0
  refine e_astore (pc := 19) d_zs_fact_19 (by decide) ?_
  refine e_aload (pc := 21) d_zs_fact_21 rfl ?_
  refine e_iload_n (pc := 23) d_zs_fact_23 rfl ?_
  refine e_callS (As := [.ref (9 + 7 * (s_sv (z_S (x_R x) j)) + 2), .int (nI (p))]) (st := []) (cc2 := 11) (ss2 := 66) (pc := 24) d_zs_fact_24 rfl cs_zs_109 (c_zs_requireNode htr (zs_t hs) hp) rfl (by decide) (by decide) (by omega) (by omega) (Nat.le_of_ble_eq_true rfl) (fun _ _ _ hq => q_Z_bad (fun z => by rw [hr0, if_neg z]) hq (Nat.le_refl _)) (fun r h2 N2 hq => ?_)
  obtain ⟨e1, -, ⟨hok, hr, e2⟩ | ⟨-, hr⟩⟩ := hq; rotate_left; exact nomatch hr
  cases hr
  rw [e1, e2]
  clear e1 e2
  show q_Ev l G m_zs_fact 8 127 11 66 27 [some (.ref (1)), some (.int (nI (j))), some (.int (nI (p))), some (.int (nI (m))), some (.ref (9 + 7 * (s_sv (z_S (x_R x) j)) + 2))] [] (zs_put (x_h x) (x_R x)) (x_N x) _
  rw [if_pos hok] at hr0
  refine e_iload_n (pc := 27) d_zs_fact_27 rfl ?_
  rcases (by omega : m = 0 ∨ m = 1 ∨ m = 2) with rfl | rfl | rfl
  · refine e_lookup (pc := 28) (off := 28) (tgt := 56) d_zs_fact_28 (by decide) (by decide) (by decide) ?_
    refine e_aload (pc := 56) d_zs_fact_56 rfl ?_
    refine e_get (pc := 58) d_zs_fact_58 fl_zs_152 (zs_t hs).1 rfl ?_
    refine e_iload_n (pc := 61) d_zs_fact_61 rfl ?_
    refine e_ialdN (pc := 62) d_zs_fact_62 (zs_t hs).2.2.1 (by omega) (by decide) ?_
    exact e_iret (pc := 63) d_zs_fact_63 rfl (by rw [hr0, if_pos rfl]; exact ⟨rfl, rfl, Nat.le_refl _⟩)
  · refine e_lookup (pc := 28) (off := 36) (tgt := 64) d_zs_fact_28 (by decide) (by decide) (by decide) ?_
    refine e_iload_n (pc := 64) d_zs_fact_64 rfl ?_
    refine e_bipush (pc := 65) d_zs_fact_65 (v := (nI (43))) rfl ?_
    refine e_icmp_geN (pc := 67) (tgt := 80) d_zs_fact_67 (by decide) (by omega) (by omega) (fun c => ?_) (fun c => ?_)
    · refine e_iconst (pc := 80) d_zs_fact_80 (v := (0)) rfl ?_
      exact e_iret (pc := 81) d_zs_fact_81 rfl (by rw [hr0, if_neg (by decide), if_pos rfl, if_neg (by omega)]; exact ⟨rfl, rfl, Nat.le_refl _⟩)
    · refine e_aload (pc := 70) d_zs_fact_70 rfl ?_
      refine e_get (pc := 72) d_zs_fact_72 fl_zs_117 (zs_t hs).1 rfl ?_
      refine e_iload_n (pc := 75) d_zs_fact_75 rfl ?_
      refine e_ialdN (pc := 76) d_zs_fact_76 (zs_t hs).2.2.2.2 (by omega) (by decide) ?_
      refine e_goto (pc := 77) (tgt := 81) d_zs_fact_77 (by decide) ?_
      exact e_iret (pc := 81) d_zs_fact_81 rfl (by rw [hr0, if_neg (by decide), if_pos rfl, if_pos c]; exact ⟨rfl, rfl, Nat.le_refl _⟩)
  · refine e_lookup (pc := 28) (off := 54) (tgt := 82) d_zs_fact_28 (by decide) (by decide) (by decide) ?_
    refine e_aload (pc := 82) d_zs_fact_82 rfl ?_
    refine e_get (pc := 84) d_zs_fact_84 fl_zs_113 (zs_t hs).1 rfl ?_
    refine e_iload_n (pc := 87) d_zs_fact_87 rfl ?_
    refine e_ialdN (pc := 88) d_zs_fact_88 (zs_t hs).2.2.2.1 (by omega) (by decide) ?_
    exact e_iret (pc := 89) d_zs_fact_89 rfl (by rw [hr0, if_neg (by decide), if_neg (by decide)]; exact ⟨rfl, rfl, Nat.le_refl _⟩)
def z_event (s : Int32) (x : zX) : zO := if (nI 0 ≤ s ∧ s ≤ nI 3) then if s_op (z_S (x_R x) (nT s)) = true then if (s_X (z_S (x_R x) (nT s))).2.2 = 0 then (.inr NSE, x) else (zI ((s_X (z_S (x_R x) (nT s))).2.1 0), x_sR x (z_sS (x_R x) (nT s) (((s_X (z_S (x_R x) (nT s))).1, shK (s_X (z_S (x_R x) (nT s))).2.1 (s_X (z_S (x_R x) (nT s))).2.2, (s_X (z_S (x_R x) (nT s))).2.2 - 1), (z_S (x_R x) (nT s)).2))) else (.inr ISE, x) else (.inr IAE, x)
set_option maxHeartbeats 4000000 in
set_option maxRecDepth 100000 in
theorem c_zs_event {l : Launch} {G : q_G} (htr : l.stackTraces = false) {x : zX} {s : Int32} (hx : xOK x) : q_Met l G m_zs_event 8 127 16 96 [.ref (1), .int (s)] (zs_put (x_h x) (x_R x)) (x_N x) (q_Z (z_event s x)) := by
  obtain ⟨r, hr0⟩ : ∃ r, r = z_event s x := ⟨_, rfl⟩
  rw [← hr0]
  refine q_Met.mk htr (by decide +kernel) rfl (List.forall_mem_cons.mpr ⟨rfl, List.forall_mem_cons.mpr ⟨rfl, fun _ h => nomatch h⟩⟩) (Nat.le_of_ble_eq_true rfl) ?_
  refine e_iload_n (pc := 0) d_zs_event_0 rfl ?_
  refine e_callS (As := [.int (s)]) (st := []) (cc2 := 15) (ss2 := 90) (pc := 1) d_zs_event_1 rfl cs_zs_40 (c_zs_requireSession htr) rfl (by decide) (by decide) (by omega) (by omega) (Nat.le_of_ble_eq_true rfl) (fun _ _ _ hq => q_Z_bad (fun z => by rw [hr0]; unfold z_event; rw [if_neg z]) hq (Nat.le_refl _)) (fun r h2 N2 hq => ?_)
  obtain ⟨e1, -, ⟨hok, hr, e2⟩ | ⟨-, hr⟩⟩ := hq; rotate_left; exact nomatch hr
  cases hr
  rw [e1, e2]
  clear e1 e2
  show q_Ev l G m_zs_event 8 127 15 90 4 [some (.ref (1)), some (.int (s))] [] (zs_put (x_h x) (x_R x)) (x_N x) _
  have hok1 := hok
  obtain ⟨j, hj, ej⟩ := q_ofL (n := 3) (by decide) hok
  subst ej
  unfold z_event at hr0
  rw [if_pos hok1, nT_n (by omega)] at hr0
  refine e_aload_n (pc := 4) d_zs_event_4 rfl ?_
  refine e_iload_n (pc := 5) d_zs_event_5 rfl ?_
  refine e_callV (As := [.int (nI (j))]) (st := []) (cc2 := 14) (ss2 := 84) (pc := 6) d_zs_event_6 rfl cv_zs_94 zs_g1 rfl (c_zs_requireOpen htr hj) rfl (by decide) (by decide) (by omega) (by omega) (Nat.le_of_ble_eq_true rfl) (fun _ _ _ hq => q_Z_bad (fun z => by rw [hr0, if_neg z]) hq (Nat.le_refl _)) (fun r h2 N2 hq => ?_)
  obtain ⟨e1, -, ⟨hok, hr, e2⟩ | ⟨-, hr⟩⟩ := hq; rotate_left; exact nomatch hr
  cases hr
  rw [e1, e2]
  clear e1 e2
  show q_Ev l G m_zs_event 8 127 14 84 9 [some (.ref (1)), some (.int (nI (j)))] [] (zs_put (x_h x) (x_R x)) (x_N x) _
  rw [if_pos hok] at hr0
  have h8 := (hx.1.2.1 j).2
  refine e_aload_n (pc := 9) d_zs_event_9 rfl ?_
  refine e_get (pc := 10) d_zs_event_10 fl_zs_17 zs_g1 rfl ?_
  refine e_iload_n (pc := 13) d_zs_event_13 rfl ?_
  refine e_aaldN (pc := 14) d_zs_event_14 zs_g3 (fun _ => rfl) (by omega) (by decide) rfl ?_
  refine e_get (pc := 15) d_zs_event_15 fl_zs_91 (zs_s hj).1 rfl ?_
  refine e_if_neN (pc := 18) (tgt := 29) d_zs_event_18 (by decide) (by omega) (fun c => ?_) (fun c => ?_)
  · rw [if_neg c] at hr0
    refine e_aload_n (pc := 29) d_zs_event_29 rfl ?_
    refine e_get (pc := 30) d_zs_event_30 fl_zs_17 zs_g1 rfl ?_
    refine e_iload_n (pc := 33) d_zs_event_33 rfl ?_
    refine e_aaldN (pc := 34) d_zs_event_34 zs_g3 (fun _ => rfl) (by omega) (by decide) rfl ?_
    refine e_callV (As := []) (st := []) (cc2 := 14) (ss2 := 84) (pc := 35) d_zs_event_35 rfl cv_zs_172 (zs_s hj).1 rfl (c_ss_takeEvent htr (zs_s hj) (by omega) h8) rfl (by decide) (by decide) (by omega) (by omega) (Nat.le_of_ble_eq_true rfl) (fun _ _ _ hq => nomatch hq.1) (fun r h2 N2 hq => ?_)
    obtain ⟨hr, e1, e2⟩ := hq
    cases hr
    rw [e1, e2]
    clear e1 e2
    show q_Ev l G m_zs_event 8 127 14 84 38 [some (.ref (1)), some (.int (nI (j)))] [.int ((s_X (z_S (x_R x) j)).2.1 0)] _ (x_N x) _
    rw [zs_uS hj]
    exact e_iret (pc := 38) d_zs_event_38 rfl (by rw [hr0]; exact ⟨rfl, rfl, Nat.le_refl _⟩)
  · exact e_throw (pc := 21) rfl xx_zs_169 d_zs_event_21 d_zs_event_24 d_zs_event_25 d_zs_event_28 (by decide) (Nat.le_of_ble_eq_true rfl) (by omega) (by omega) (fun N2 hN => by rw [hr0, if_pos c]; exact ⟨rfl, rfl, hN⟩)
def z_state (i w : Int32) (x : zX) : zO := if (nI 0 ≤ i ∧ i ≤ nI 2) ∧ (nI 0 ≤ w ∧ w ≤ nI 5) then (zI (if nT w = 0 then nI (v_ln (z_V (x_R x) (nT i))) else if nT w = 1 then nI (v_ap (z_V (x_R x) (nT i))) else if nT w = 2 then bI (v_up (z_V (x_R x) (nT i))) else if nT w = 3 then bI (z_lk (x_R x) (nT i)) else if nT w = 4 then nI (cntB (fun q => decide ((z_T (x_R x) (nT i)).2.1 q ≠ -1)) 259) else nI (v_ag (z_V (x_R x) (nT i)))), x) else (.inr IAE, x)
set_option maxHeartbeats 4000000 in
set_option maxRecDepth 100000 in
theorem c_zs_state {l : Launch} {G : q_G} (htr : l.stackTraces = false) {x : zX} {i w : Int32} (hx : xOK x) : q_Met l G m_zs_state 8 127 16 96 [.ref (1), .int (i), .int (w)] (zs_put (x_h x) (x_R x)) (x_N x) (q_Z (z_state i w x)) := by
  obtain ⟨r, hr0⟩ : ∃ r, r = z_state i w x := ⟨_, rfl⟩
  rw [← hr0]
  refine q_Met.mk htr (by decide +kernel) rfl (List.forall_mem_cons.mpr ⟨rfl, List.forall_mem_cons.mpr ⟨rfl, List.forall_mem_cons.mpr ⟨rfl, fun _ h => nomatch h⟩⟩⟩) (Nat.le_of_ble_eq_true rfl) ?_
  refine e_iload_n (pc := 0) d_zs_state_0 rfl ?_
  refine e_callS (As := [.int (i)]) (st := []) (cc2 := 15) (ss2 := 90) (pc := 1) d_zs_state_1 rfl cs_zs_44 (c_zs_requireServer htr) rfl (by decide) (by decide) (by omega) (by omega) (Nat.le_of_ble_eq_true rfl) (fun _ _ _ hq => q_Z_bad (fun z => by rw [hr0]; unfold z_state; rw [if_neg (fun u => z u.1)]) hq (Nat.le_refl _)) (fun r h2 N2 hq => ?_)
  obtain ⟨e1, -, ⟨hok, hr, e2⟩ | ⟨-, hr⟩⟩ := hq; rotate_left; exact nomatch hr
  cases hr
  rw [e1, e2]
  clear e1 e2
  show q_Ev l G m_zs_state 8 127 15 90 4 [some (.ref (1)), some (.int (i)), some (.int (w)), none] [] (zs_put (x_h x) (x_R x)) (x_N x) _
  have hok1 := hok
  refine e_iload_n (pc := 4) d_zs_state_4 rfl ?_
  refine e_iconst (pc := 5) d_zs_state_5 (v := (nI (0))) rfl ?_
  refine e_iconst (pc := 6) d_zs_state_6 (v := (nI (5))) rfl ?_
  refine e_callS (As := [.int (w), .int (nI (0)), .int (nI (5))]) (st := []) (cc2 := 14) (ss2 := 84) (pc := 7) d_zs_state_7 rfl cs_zs_47 (c_zs_requireRange htr) rfl (by decide) (by decide) (by omega) (by omega) (Nat.le_of_ble_eq_true rfl) (fun _ _ _ hq => q_Z_bad (fun z => by rw [hr0]; unfold z_state; rw [if_neg (fun u => z u.2)]) hq (Nat.le_refl _)) (fun r h2 N2 hq => ?_)
  obtain ⟨e1, -, ⟨hok, hr, e2⟩ | ⟨-, hr⟩⟩ := hq; rotate_left; exact nomatch hr
  cases hr
  rw [e1, e2]
  clear e1 e2
  show q_Ev l G m_zs_state 8 127 14 84 10 [some (.ref (1)), some (.int (i)), some (.int (w)), none] [] (zs_put (x_h x) (x_R x)) (x_N x) _
  have hok2 := hok
  obtain ⟨k, hk, ek⟩ := q_ofL (n := 2) (by decide) hok1
  obtain ⟨m, hm, em⟩ := q_ofL (n := 5) (by decide) hok2
  subst ek em
  unfold z_state at hr0
  rw [if_pos ⟨hok1, hok2⟩, nT_n (by omega), nT_n (by omega)] at hr0
  refine e_aload_n (pc := 10) d_zs_state_10 rfl ?_
  refine e_get (pc := 11) d_zs_state_11 fl_zs_11 zs_g1 rfl ?_
  refine e_iload_n (pc := 14) d_zs_state_14 rfl ?_
  refine e_aaldN (pc := 15) d_zs_state_15 zs_g2 (fun _ => rfl) (by omega) (by decide) rfl ?_
  refine e_astore_n (pc := 16) d_zs_state_16 (by decide) ?_
  refine e_iload_n (pc := 17) d_zs_state_17 rfl ?_
  rcases (by omega : m = 0 ∨ m = 1 ∨ m = 2 ∨ m = 3 ∨ m = 4 ∨ m = 5) with rfl | rfl | rfl | rfl | rfl | rfl
  · refine e_tableIn (pc := 18) (off := 34) (tgt := 52) d_zs_state_18 (by decide) (by decide) (by decide) (by decide) ?_
    refine e_aload_n (pc := 52) d_zs_state_52 rfl ?_
    refine e_get (pc := 53) d_zs_state_53 fl_zs_179 (zs_v hk).1 rfl ?_
    exact e_iret (pc := 56) d_zs_state_56 rfl (by rw [hr0]; exact ⟨rfl, rfl, Nat.le_refl _⟩)
  · refine e_tableIn (pc := 18) (off := 39) (tgt := 57) d_zs_state_18 (by decide) (by decide) (by decide) (by decide) ?_
    refine e_aload_n (pc := 57) d_zs_state_57 rfl ?_
    refine e_get (pc := 58) d_zs_state_58 fl_zs_185 (zs_v hk).1 rfl ?_
    exact e_iret (pc := 61) d_zs_state_61 rfl (by rw [hr0]; exact ⟨rfl, rfl, Nat.le_refl _⟩)
  · refine e_tableIn (pc := 18) (off := 44) (tgt := 62) d_zs_state_18 (by decide) (by decide) (by decide) (by decide) ?_
    refine e_aload_n (pc := 62) d_zs_state_62 rfl ?_
    refine e_get (pc := 63) d_zs_state_63 fl_zs_97 (zs_v hk).1 rfl ?_
    refine e_ifB_eq (pc := 66) (tgt := 73) d_zs_state_66 (by decide) (fun c => ?_) (fun c => ?_)
    · refine e_iconst (pc := 73) d_zs_state_73 (v := (nI (0))) rfl ?_
      exact e_iret (pc := 74) d_zs_state_74 rfl (by rw [hr0]; exact ⟨by rw [c]; rfl, rfl, Nat.le_refl _⟩)
    · refine e_iconst (pc := 69) d_zs_state_69 (v := (nI (1))) rfl ?_
      refine e_goto (pc := 70) (tgt := 74) d_zs_state_70 (by decide) ?_
      exact e_iret (pc := 74) d_zs_state_74 rfl (by rw [hr0]; exact ⟨by rw [c]; rfl, rfl, Nat.le_refl _⟩)
  · refine e_tableIn (pc := 18) (off := 57) (tgt := 75) d_zs_state_18 (by decide) (by decide) (by decide) (by decide) ?_
    refine e_aload_n (pc := 75) d_zs_state_75 rfl ?_
    refine e_iload_n (pc := 76) d_zs_state_76 rfl ?_
    refine e_callV (As := [.int (nI (k))]) (st := []) (cc2 := 14) (ss2 := 84) (pc := 77) d_zs_state_77 rfl cv_zs_58 zs_g1 rfl (c_zs_isLinked htr hx.1.1 hk) rfl (by decide) (by decide) (by omega) (by omega) (Nat.le_of_ble_eq_true rfl) (fun _ _ _ hq => nomatch hq.1) (fun r h2 N2 hq => ?_)
    obtain ⟨hr, e1, e2⟩ := hq
    cases hr
    rw [e1, e2]
    clear e1 e2
    show q_Ev l G m_zs_state 8 127 14 84 80 [some (.ref (1)), some (.int (nI (k))), some (.int (nI (3))), some (.ref (9 + 7 * (k)))] [.int (bI (z_lk (x_R x) k))] (zs_put (x_h x) (x_R x)) (x_N x) _
    refine e_ifB_eq (pc := 80) (tgt := 87) d_zs_state_80 (by decide) (fun c => ?_) (fun c => ?_)
    · refine e_iconst (pc := 87) d_zs_state_87 (v := (nI (0))) rfl ?_
      exact e_iret (pc := 88) d_zs_state_88 rfl (by rw [hr0, c]; exact ⟨rfl, rfl, Nat.le_refl _⟩)
    · refine e_iconst (pc := 83) d_zs_state_83 (v := (nI (1))) rfl ?_
      refine e_goto (pc := 84) (tgt := 88) d_zs_state_84 (by decide) ?_
      exact e_iret (pc := 88) d_zs_state_88 rfl (by rw [hr0, c]; exact ⟨rfl, rfl, Nat.le_refl _⟩)
  · refine e_tableIn (pc := 18) (off := 71) (tgt := 89) d_zs_state_18 (by decide) (by decide) (by decide) (by decide) ?_
    refine e_aload_n (pc := 89) d_zs_state_89 rfl ?_
    refine e_get (pc := 90) d_zs_state_90 fl_zs_205 (zs_v hk).1 rfl ?_
    refine e_callV (As := []) (st := []) (cc2 := 14) (ss2 := 84) (pc := 93) d_zs_state_93 rfl cv_zs_208 (zs_t hk).1 rfl (c_tr_countNodes htr (zs_t hk)) rfl (by decide) (by decide) (by omega) (by omega) (Nat.le_of_ble_eq_true rfl) (fun _ _ _ hq => nomatch hq.1) (fun r h2 N2 hq => ?_)
    obtain ⟨hr, e1, e2⟩ := hq
    cases hr
    rw [e1, e2]
    clear e1 e2
    show q_Ev l G m_zs_state 8 127 14 84 96 [some (.ref (1)), some (.int (nI (k))), some (.int (nI (4))), some (.ref (9 + 7 * (k)))] [.int (nI (cntB (fun q => decide ((z_T (x_R x) k).2.1 q ≠ -1)) 259))] (zs_put (x_h x) (x_R x)) (x_N x) _
    exact e_iret (pc := 96) d_zs_state_96 rfl (by rw [hr0]; exact ⟨rfl, rfl, Nat.le_refl _⟩)
  · refine e_tableOut (pc := 18) (tgt := 97) d_zs_state_18 (Or.inr (by decide)) (by decide) ?_
    refine e_aload_n (pc := 97) d_zs_state_97 rfl ?_
    refine e_get (pc := 98) d_zs_state_98 fl_zs_211 (zs_v hk).1 rfl ?_
    exact e_iret (pc := 101) d_zs_state_101 rfl (by rw [hr0]; exact ⟨rfl, rfl, Nat.le_refl _⟩)
def z_count (w : Int32) (x : zX) : zO := if (nI 0 ≤ w ∧ w ≤ nI 7) then (zI (if nT w = 0 then z_tm (x_R x) else if nT w = 1 then ldI (z_ld (x_R x)) else if nT w = 2 then nI (z_ep (x_R x)) else if nT w = 3 then bI (z_qr (x_R x)) else nI (if s_op (z_S (x_R x) (nT w - 4)) then 1 else if s_du (z_S (x_R x) (nT w - 4)) then 2 else 0)), x) else (.inr IAE, x)
set_option maxHeartbeats 4000000 in
set_option maxRecDepth 100000 in
theorem c_zs_count {l : Launch} {G : q_G} (htr : l.stackTraces = false) {x : zX} {w : Int32} (hx : xOK x) : q_Met l G m_zs_count 7 107 16 96 [.ref (1), .int (w)] (zs_put (x_h x) (x_R x)) (x_N x) (q_Z (z_count w x)) := by
  obtain ⟨r, hr0⟩ : ∃ r, r = z_count w x := ⟨_, rfl⟩
  rw [← hr0]
  refine q_Met.mk htr (by decide +kernel) rfl (List.forall_mem_cons.mpr ⟨rfl, List.forall_mem_cons.mpr ⟨rfl, fun _ h => nomatch h⟩⟩) (Nat.le_of_ble_eq_true rfl) ?_
  refine e_iload_n (pc := 0) d_zs_count_0 rfl ?_
  refine e_iconst (pc := 1) d_zs_count_1 (v := (nI (0))) rfl ?_
  refine e_bipush (pc := 2) d_zs_count_2 (v := (nI (7))) rfl ?_
  refine e_callS (As := [.int (w), .int (nI (0)), .int (nI (7))]) (st := []) (cc2 := 15) (ss2 := 90) (pc := 4) d_zs_count_4 rfl cs_zs_47 (c_zs_requireRange htr) rfl (by decide) (by decide) (by omega) (by omega) (Nat.le_of_ble_eq_true rfl) (fun _ _ _ hq => q_Z_bad (fun z => by rw [hr0]; unfold z_count; rw [if_neg z]) hq (Nat.le_refl _)) (fun r h2 N2 hq => ?_)
  obtain ⟨e1, -, ⟨hok, hr, e2⟩ | ⟨-, hr⟩⟩ := hq; rotate_left; exact nomatch hr
  cases hr
  rw [e1, e2]
  clear e1 e2
  show q_Ev l G m_zs_count 7 107 15 90 7 [some (.ref (1)), some (.int (w))] [] (zs_put (x_h x) (x_R x)) (x_N x) _
  have hok1 := hok
  obtain ⟨m, hm, em⟩ := q_ofL (n := 7) (by decide) hok1
  subst em
  unfold z_count at hr0
  rw [if_pos hok1, nT_n (by omega)] at hr0
  refine e_iload_n (pc := 7) d_zs_count_7 rfl ?_
  by_cases c4 : m < 4
  · rcases (by omega : m = 0 ∨ m = 1 ∨ m = 2 ∨ m = 3) with rfl | rfl | rfl | rfl
    · refine e_tableIn (pc := 8) (off := 32) (tgt := 40) d_zs_count_8 (by decide) (by decide) (by decide) (by decide) ?_
      refine e_aload_n (pc := 40) d_zs_count_40 rfl ?_
      refine e_get (pc := 41) d_zs_count_41 fl_zs_35 zs_g1 rfl ?_
      exact e_iret (pc := 44) d_zs_count_44 rfl (by rw [hr0]; exact ⟨rfl, rfl, Nat.le_refl _⟩)
    · refine e_tableIn (pc := 8) (off := 37) (tgt := 45) d_zs_count_8 (by decide) (by decide) (by decide) (by decide) ?_
      refine e_aload_n (pc := 45) d_zs_count_45 rfl ?_
      refine e_get (pc := 46) d_zs_count_46 fl_zs_28 zs_g1 rfl ?_
      exact e_iret (pc := 49) d_zs_count_49 rfl (by rw [hr0]; exact ⟨rfl, rfl, Nat.le_refl _⟩)
    · refine e_tableIn (pc := 8) (off := 42) (tgt := 50) d_zs_count_8 (by decide) (by decide) (by decide) (by decide) ?_
      refine e_aload_n (pc := 50) d_zs_count_50 rfl ?_
      refine e_get (pc := 51) d_zs_count_51 fl_zs_32 zs_g1 rfl ?_
      exact e_iret (pc := 54) d_zs_count_54 rfl (by rw [hr0]; exact ⟨rfl, rfl, Nat.le_refl _⟩)
    · refine e_tableIn (pc := 8) (off := 47) (tgt := 55) d_zs_count_8 (by decide) (by decide) (by decide) (by decide) ?_
      refine e_aload_n (pc := 55) d_zs_count_55 rfl ?_
      refine e_callV (As := []) (st := []) (cc2 := 15) (ss2 := 90) (pc := 56) d_zs_count_56 rfl cv_zs_62 zs_g1 rfl (c_zs_hasQuorum htr hx.1.1) rfl (by decide) (by decide) (by omega) (by omega) (Nat.le_of_ble_eq_true rfl) (fun _ _ _ hq => nomatch hq.1) (fun r h2 N2 hq => ?_)
      obtain ⟨hr, e1, e2⟩ := hq
      cases hr
      rw [e1, e2]
      clear e1 e2
      show q_Ev l G m_zs_count 7 107 15 90 59 [some (.ref (1)), some (.int (nI (3)))] [.int (bI (z_qr (x_R x)))] (zs_put (x_h x) (x_R x)) (x_N x) _
      refine e_ifB_eq (pc := 59) (tgt := 66) d_zs_count_59 (by decide) (fun c => ?_) (fun c => ?_)
      · refine e_iconst (pc := 66) d_zs_count_66 (v := (nI (0))) rfl ?_
        exact e_iret (pc := 67) d_zs_count_67 rfl (by rw [hr0, c]; exact ⟨rfl, rfl, Nat.le_refl _⟩)
      · refine e_iconst (pc := 62) d_zs_count_62 (v := (nI (1))) rfl ?_
        refine e_goto (pc := 63) (tgt := 67) d_zs_count_63 (by decide) ?_
        exact e_iret (pc := 67) d_zs_count_67 rfl (by rw [hr0, c]; exact ⟨rfl, rfl, Nat.le_refl _⟩)
  · refine e_tableOut (pc := 8) (tgt := 68) d_zs_count_8 (Or.inr (by rw [nI_toInt (by omega)]; omega)) (by decide) ?_
    refine e_aload_n (pc := 68) d_zs_count_68 rfl ?_
    refine e_get (pc := 69) d_zs_count_69 fl_zs_17 zs_g1 rfl ?_
    refine e_iload_n (pc := 72) d_zs_count_72 rfl ?_
    refine e_iconst (pc := 73) d_zs_count_73 (v := (nI (4))) rfl ?_
    refine e_isubN (pc := 74) d_zs_count_74 (by omega) ?_
    refine e_aaldN (pc := 75) d_zs_count_75 zs_g3 (fun _ => rfl) (by omega) (by decide) rfl ?_
    refine e_callV (As := []) (st := []) (cc2 := 15) (ss2 := 90) (pc := 76) d_zs_count_76 rfl cv_zs_214 (zs_s (j := m - 4) (by omega)).1 rfl (c_ss_standing htr (zs_s (j := m - 4) (by omega))) rfl (by decide) (by decide) (by omega) (by omega) (Nat.le_of_ble_eq_true rfl) (fun _ _ _ hq => nomatch hq.1) (fun r h2 N2 hq => ?_)
    obtain ⟨hr, e1, e2⟩ := hq
    cases hr
    rw [e1, e2]
    clear e1 e2
    show q_Ev l G m_zs_count 7 107 15 90 79 [some (.ref (1)), some (.int (nI (m)))] [.int (nI (if s_op (z_S (x_R x) (m - 4)) then 1 else if s_du (z_S (x_R x) (m - 4)) then 2 else 0))] (zs_put (x_h x) (x_R x)) (x_N x) _
    exact e_iret (pc := 79) d_zs_count_79 rfl (by rw [hr0, if_neg (by omega), if_neg (by omega), if_neg (by omega), if_neg (by omega)]; exact ⟨rfl, rfl, Nat.le_refl _⟩)
