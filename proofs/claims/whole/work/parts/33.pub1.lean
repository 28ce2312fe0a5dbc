/-! THE CLASS'S PUBLIC METHODS (1) -/
/-- an answer or a throw, and the state behind it -/
abbrev zO : Type := (Option Value ⊕ String) × zX
def q_Z (r : zO) : q_Q := fun o h' N' => o = r.1 ∧ h' = zs_put (x_h r.2) (x_R r.2) ∧ x_N r.2 ≤ N'
theorem q_Z_bad {ok : Prop} {E0 E : String} {x : zX} {r : zO} {h' : q_H} {N N' : Nat} (hr : ¬ ok → r = (.inr E0, x)) (hq : q_Rq ok E0 (zs_put (x_h x) (x_R x)) N (.inr E) h' N') (hN : x_N x ≤ N) : q_Z r (.inr E) h' N' := by
  obtain ⟨h1, h2, ⟨-, h3, -⟩ | ⟨h3, h4⟩⟩ := hq
  · cases h3
  · rw [hr h3]
    exact ⟨h4, h1, Nat.le_trans hN h2⟩
theorem q_ofL {x : Int32} {n : Nat} (hn : n < 2 ^ 31) (h : nI 0 ≤ x ∧ x ≤ nI n) : ∃ j, j < n + 1 ∧ x = nI j := by
  obtain ⟨j, h1, h2⟩ := q_ofN hn h
  exact ⟨j, by omega, h2⟩
def zI (v : Int32) : Option Value ⊕ String := .inl (some (.int v))
abbrev IAE : String := "java/lang/IllegalArgumentException"
abbrev ISE : String := "java/lang/IllegalStateException"
abbrev NSE : String := "java/util/NoSuchElementException"
abbrev UOE : String := "java/lang/UnsupportedOperationException"
abbrev IOB : String := "java/lang/IndexOutOfBoundsException"
abbrev nT (x : Int32) : Nat := x.toNatClampNeg
theorem nT_n {j : Nat} (h : j < 2 ^ 31) : nT (nI j) = j := nI_clamp h
def z_ping (s : Int32) (x : zX) : zO := if (nI 0 ≤ s ∧ s ≤ nI 3) then if z_rc (x_R x) (nT s) = true ∧ z_qr (x_R x) = true then (zI (nI (s_X (z_S (x_R x) (nT s))).2.2), x_sR x (z_sS (x_R x) (nT s) (s_X (z_S (x_R x) (nT s)), s_op (z_S (x_R x) (nT s)), s_du (z_S (x_R x) (nT s)), s_sv (z_S (x_R x) (nT s)), s_to (z_S (x_R x) (nT s)), z_tm (x_R x)))) else (.inr ISE, x) else (.inr IAE, x)
set_option maxHeartbeats 4000000 in
set_option maxRecDepth 100000 in
theorem c_zs_ping {l : Launch} {G : q_G} (htr : l.stackTraces = false) {x : zX} {s : Int32} (hx : xOK x) : q_Met l G m_zs_ping 8 127 16 96 [.ref (1), .int (s)] (zs_put (x_h x) (x_R x)) (x_N x) (q_Z (z_ping s x)) := by
  obtain ⟨r, hr0⟩ : ∃ r, r = z_ping s x := ⟨_, rfl⟩
  rw [← hr0]
  refine q_Met.mk htr (by decide +kernel) rfl (List.forall_mem_cons.mpr ⟨rfl, List.forall_mem_cons.mpr ⟨rfl, fun _ h => nomatch h⟩⟩) (Nat.le_of_ble_eq_true rfl) ?_
  refine e_iload_n (pc := 0) d_zs_ping_0 rfl ?_
  refine e_callS (As := [.int (s)]) (st := []) (cc2 := 15) (ss2 := 90) (pc := 1) d_zs_ping_1 rfl cs_zs_40 (c_zs_requireSession htr) rfl (by decide) (by decide) (by omega) (by omega) (Nat.le_of_ble_eq_true rfl) (fun _ _ _ hq => q_Z_bad (fun z => by rw [hr0]; unfold z_ping; rw [if_neg z]) hq (Nat.le_refl _)) (fun r h2 N2 hq => ?_)
  obtain ⟨e1, -, ⟨hok, hr, e2⟩ | ⟨-, hr⟩⟩ := hq; rotate_left; exact nomatch hr
  cases hr
  rw [e1, e2]
  clear e1 e2
  show q_Ev l G m_zs_ping 8 127 15 90 4 [some (.ref (1)), some (.int (s))] [] (zs_put (x_h x) (x_R x)) (x_N x) _
  have hok1 := hok
  obtain ⟨j, hj, ej⟩ := q_ofL (n := 3) (by decide) hok
  subst ej
  unfold z_ping at hr0
  rw [if_pos hok1, nT_n (by omega)] at hr0
  refine e_aload_n (pc := 4) d_zs_ping_4 rfl ?_
  refine e_iload_n (pc := 5) d_zs_ping_5 rfl ?_
  refine e_callV (As := [.int (nI (j))]) (st := []) (cc2 := 14) (ss2 := 84) (pc := 6) d_zs_ping_6 rfl cv_zs_72 zs_g1 rfl (c_zs_requireReach htr hx.1.1 hj (hx.1.2.1 j).1) rfl (by decide) (by decide) (by omega) (by omega) (Nat.le_of_ble_eq_true rfl) (fun _ _ _ hq => q_Z_bad (fun z => by rw [hr0, if_neg (fun w => z w.1)]) hq (Nat.le_refl _)) (fun r h2 N2 hq => ?_)
  obtain ⟨e1, -, ⟨hok, hr, e2⟩ | ⟨-, hr⟩⟩ := hq; rotate_left; exact nomatch hr
  cases hr
  rw [e1, e2]
  clear e1 e2
  show q_Ev l G m_zs_ping 8 127 14 84 9 [some (.ref (1)), some (.int (nI (j)))] [] (zs_put (x_h x) (x_R x)) (x_N x) _
  have hrc := hok
  refine e_aload_n (pc := 9) d_zs_ping_9 rfl ?_
  refine e_callV (As := []) (st := []) (cc2 := 13) (ss2 := 78) (pc := 10) d_zs_ping_10 rfl cv_zs_75 zs_g1 rfl (c_zs_requireQuorum htr hx.1.1) rfl (by decide) (by decide) (by omega) (by omega) (Nat.le_of_ble_eq_true rfl) (fun _ _ _ hq => q_Z_bad (fun z => by rw [hr0, if_neg (fun w => z w.2)]) hq (Nat.le_refl _)) (fun r h2 N2 hq => ?_)
  obtain ⟨e1, -, ⟨hok, hr, e2⟩ | ⟨-, hr⟩⟩ := hq; rotate_left; exact nomatch hr
  cases hr
  rw [e1, e2]
  clear e1 e2
  show q_Ev l G m_zs_ping 8 127 13 78 13 [some (.ref (1)), some (.int (nI (j)))] [] (zs_put (x_h x) (x_R x)) (x_N x) _
  rw [if_pos ⟨hrc, hok⟩] at hr0
  refine e_aload_n (pc := 13) d_zs_ping_13 rfl ?_
  refine e_get (pc := 14) d_zs_ping_14 fl_zs_17 zs_g1 rfl ?_
  refine e_iload_n (pc := 17) d_zs_ping_17 rfl ?_
  refine e_aaldN (pc := 18) d_zs_ping_18 zs_g3 (fun _ => rfl) (by omega) (by decide) rfl ?_
  refine e_aload_n (pc := 19) d_zs_ping_19 rfl ?_
  refine e_get (pc := 20) d_zs_ping_20 fl_zs_35 zs_g1 rfl ?_
  refine q_Ev.hp (ss_put_id (zs_s hj)) ?_
  refine e_putE (pc := 23) d_zs_ping_23 (fs2 := [.ref (30 + 3 * j + 1), .ref (30 + 3 * j + 2), .int (nI ((s_X (z_S (x_R x) j)).2.2)), .int (bI (s_op (z_S (x_R x) j))), .int (bI (s_du (z_S (x_R x) j))), .int (nI (s_sv (z_S (x_R x) j))), .int (s_to (z_S (x_R x) j)), .int (z_tm (x_R x))]) fl_zs_88 ss_g0 (Nat.le_of_ble_eq_true rfl) (fun _ => rfl) (fun _ => rfl) rfl ?_
  rw [ss_u0]
  rw [zs_uS hj]
  obtain ⟨R2, hR2⟩ : ∃ R2, R2 = (z_sS (x_R x) j (s_X (z_S (x_R x) j), s_op (z_S (x_R x) j), s_du (z_S (x_R x) j), s_sv (z_S (x_R x) j), s_to (z_S (x_R x) j), z_tm (x_R x))) := ⟨_, rfl⟩
  refine q_Ev.hp (h1 := zs_put (x_h x) R2) (by rw [hR2]) ?_
  refine e_aload_n (pc := 26) d_zs_ping_26 rfl ?_
  refine e_get (pc := 27) d_zs_ping_27 fl_zs_17 zs_g1 rfl ?_
  refine e_iload_n (pc := 30) d_zs_ping_30 rfl ?_
  refine e_aaldN (pc := 31) d_zs_ping_31 zs_g3 (fun _ => rfl) (by omega) (by decide) rfl ?_
  refine e_get (pc := 32) d_zs_ping_32 fl_zs_91 (zs_s hj).1 rfl ?_
  exact e_iret (pc := 35) d_zs_ping_35 rfl (by rw [hr0, hR2]; exact ⟨by simp [zI, z_S, z_sS, va_up], rfl, Nat.le_refl _⟩)
def z_move (s i : Int32) (x : zX) : zO := if (nI 0 ≤ s ∧ s ≤ nI 3) ∧ (nI 0 ≤ i ∧ i ≤ nI 2) then if s_op (z_S (x_R x) (nT s)) = true ∧ v_up (z_V (x_R x) (nT i)) = true then (zI (nI (s_sv (z_S (x_R x) (nT s)))), x_sR x (z_sS (x_R x) (nT s) ((fillN (s_X (z_S (x_R x) (nT s))).1 259 (nI 0), (s_X (z_S (x_R x) (nT s))).2), s_op (z_S (x_R x) (nT s)), s_du (z_S (x_R x) (nT s)), nT i, s_to (z_S (x_R x) (nT s)), s_he (z_S (x_R x) (nT s))))) else (.inr ISE, x) else (.inr IAE, x)
set_option maxHeartbeats 4000000 in
set_option maxRecDepth 100000 in
theorem c_zs_move {l : Launch} {G : q_G} (htr : l.stackTraces = false) {x : zX} {s i : Int32} (hx : xOK x) : q_Met l G m_zs_move 8 127 16 96 [.ref (1), .int (s), .int (i)] (zs_put (x_h x) (x_R x)) (x_N x) (q_Z (z_move s i x)) := by
  obtain ⟨r, hr0⟩ : ∃ r, r = z_move s i x := ⟨_, rfl⟩
  rw [← hr0]
  refine q_Met.mk htr (by decide +kernel) rfl (List.forall_mem_cons.mpr ⟨rfl, List.forall_mem_cons.mpr ⟨rfl, List.forall_mem_cons.mpr ⟨rfl, fun _ h => nomatch h⟩⟩⟩) (Nat.le_of_ble_eq_true rfl) ?_
  refine e_iload_n (pc := 0) d_zs_move_0 rfl ?_
  refine e_callS (As := [.int (s)]) (st := []) (cc2 := 15) (ss2 := 90) (pc := 1) d_zs_move_1 rfl cs_zs_40 (c_zs_requireSession htr) rfl (by decide) (by decide) (by omega) (by omega) (Nat.le_of_ble_eq_true rfl) (fun _ _ _ hq => q_Z_bad (fun z => by rw [hr0]; unfold z_move; rw [if_neg (fun w => z w.1)]) hq (Nat.le_refl _)) (fun r h2 N2 hq => ?_)
  obtain ⟨e1, -, ⟨hok, hr, e2⟩ | ⟨-, hr⟩⟩ := hq; rotate_left; exact nomatch hr
  cases hr
  rw [e1, e2]
  clear e1 e2
  show q_Ev l G m_zs_move 8 127 15 90 4 [some (.ref (1)), some (.int (s)), some (.int (i)), none, none] [] (zs_put (x_h x) (x_R x)) (x_N x) _
  have hok1 := hok
  refine e_iload_n (pc := 4) d_zs_move_4 rfl ?_
  refine e_callS (As := [.int (i)]) (st := []) (cc2 := 14) (ss2 := 84) (pc := 5) d_zs_move_5 rfl cs_zs_44 (c_zs_requireServer htr) rfl (by decide) (by decide) (by omega) (by omega) (Nat.le_of_ble_eq_true rfl) (fun _ _ _ hq => q_Z_bad (fun z => by rw [hr0]; unfold z_move; rw [if_neg (fun w => z w.2)]) hq (Nat.le_refl _)) (fun r h2 N2 hq => ?_)
  obtain ⟨e1, -, ⟨hok, hr, e2⟩ | ⟨-, hr⟩⟩ := hq; rotate_left; exact nomatch hr
  cases hr
  rw [e1, e2]
  clear e1 e2
  show q_Ev l G m_zs_move 8 127 14 84 8 [some (.ref (1)), some (.int (s)), some (.int (i)), none, none] [] (zs_put (x_h x) (x_R x)) (x_N x) _
  have hok2 := hok
  obtain ⟨j, hj, ej⟩ := q_ofL (n := 3) (by decide) hok1
  obtain ⟨k, hk, ek⟩ := q_ofL (n := 2) (by decide) hok2
  subst ej ek
  unfold z_move at hr0
  rw [if_pos ⟨hok1, hok2⟩, nT_n (by omega), nT_n (by omega)] at hr0
  refine e_aload_n (pc := 8) d_zs_move_8 rfl ?_
  refine e_iload_n (pc := 9) d_zs_move_9 rfl ?_
  refine e_callV (As := [.int (nI (j))]) (st := []) (cc2 := 13) (ss2 := 78) (pc := 10) d_zs_move_10 rfl cv_zs_94 zs_g1 rfl (c_zs_requireOpen htr hj) rfl (by decide) (by decide) (by omega) (by omega) (Nat.le_of_ble_eq_true rfl) (fun _ _ _ hq => q_Z_bad (fun z => by rw [hr0, if_neg (fun w => z w.1)]) hq (Nat.le_refl _)) (fun r h2 N2 hq => ?_)
  obtain ⟨e1, -, ⟨hok, hr, e2⟩ | ⟨-, hr⟩⟩ := hq; rotate_left; exact nomatch hr
  cases hr
  rw [e1, e2]
  clear e1 e2
  show q_Ev l G m_zs_move 8 127 13 78 13 [some (.ref (1)), some (.int (nI (j))), some (.int (nI (k))), none, none] [] (zs_put (x_h x) (x_R x)) (x_N x) _
  have hop := hok
  refine e_aload_n (pc := 13) d_zs_move_13 rfl ?_
  refine e_get (pc := 14) d_zs_move_14 fl_zs_11 zs_g1 rfl ?_
  refine e_iload_n (pc := 17) d_zs_move_17 rfl ?_
  refine e_aaldN (pc := 18) d_zs_move_18 zs_g2 (fun _ => rfl) (by omega) (by decide) rfl ?_
  refine e_get (pc := 19) d_zs_move_19 fl_zs_97 (zs_v hk).1 rfl ?_
  refine e_ifB_ne (pc := 22) (tgt := 33) d_zs_move_22 (by decide) (fun c => ?_) (fun c => ?_)
  · rw [if_pos ⟨hop, c⟩] at hr0
    refine e_aload_n (pc := 33) d_zs_move_33 rfl ?_
    refine e_get (pc := 34) d_zs_move_34 fl_zs_17 zs_g1 rfl ?_
    refine e_iload_n (pc := 37) d_zs_move_37 rfl ?_
    refine e_aaldN (pc := 38) d_zs_move_38 zs_g3 (fun _ => rfl) (by omega) (by decide) rfl ?_
    refine e_astore_n (pc := 39) d_zs_move_39 (by decide) ?_
    refine q_Ev.hp (ss_put_id (zs_s hj)) ?_
    refine e_aload_n (pc := 40) d_zs_move_40 rfl ?_
    refine e_get (pc := 41) d_zs_move_41 fl_zs_100 ss_g0 rfl ?_
    refine e_istore (pc := 44) d_zs_move_44 (by decide) ?_
    refine e_aload_n (pc := 46) d_zs_move_46 rfl ?_
    refine e_iload_n (pc := 47) d_zs_move_47 rfl ?_
    refine e_putE (pc := 48) d_zs_move_48 (fs2 := [.ref (30 + 3 * j + 1), .ref (30 + 3 * j + 2), .int (nI ((s_X (z_S (x_R x) j)).2.2)), .int (bI (s_op (z_S (x_R x) j))), .int (bI (s_du (z_S (x_R x) j))), .int (nI (k)), .int (s_to (z_S (x_R x) j)), .int (s_he (z_S (x_R x) j))]) fl_zs_100 ss_g0 (Nat.le_of_ble_eq_true rfl) (fun _ => rfl) (fun _ => rfl) rfl ?_
    rw [ss_u0]
    refine e_aload_n (pc := 51) d_zs_move_51 rfl ?_
    refine e_callV (As := []) (st := []) (cc2 := 13) (ss2 := 78) (pc := 52) d_zs_move_52 rfl cv_zs_103 ss_g0 rfl (c_ss_dropWatches htr ss_put_at) rfl (by decide) (by decide) (by omega) (by omega) (Nat.le_of_ble_eq_true rfl) (fun _ _ _ hq => nomatch hq.1) (fun r h2 N2 hq => ?_)
    obtain ⟨hr, e1, e2⟩ := hq
    cases hr
    rw [e1, e2]
    clear e1 e2
    show q_Ev l G m_zs_move 8 127 13 78 55 [some (.ref (1)), some (.int (nI (j))), some (.int (nI (k))), some (.ref (30 + 3 * j)), some (.int (nI (s_sv (z_S (x_R x) j))))] [] _ (x_N x) _
    rw [ss_put_put, zs_uS hj]
    refine e_iload (pc := 55) d_zs_move_55 rfl ?_
    exact e_iret (pc := 57) d_zs_move_57 rfl (by rw [hr0]; exact ⟨rfl, rfl, Nat.le_refl _⟩)
  · exact e_throw (pc := 25) rfl xx_zs_66 d_zs_move_25 d_zs_move_28 d_zs_move_29 d_zs_move_32 (by decide) (Nat.le_of_ble_eq_true rfl) (by omega) (by omega) (fun N2 hN => by rw [hr0, if_neg (fun w => by rw [c] at w; exact absurd w.2 (by decide))]; exact ⟨rfl, rfl, hN⟩)
def z_open (s i to : Int32) (x : zX) : zO := if (nI 0 ≤ s ∧ s ≤ nI 3) ∧ (nI 0 ≤ i ∧ i ≤ nI 2) ∧ (nI 1 ≤ to ∧ to ≤ nI 50) then if s_op (z_S (x_R x) (nT s)) = false ∧ s_du (z_S (x_R x) (nT s)) = false ∧ z_lk (x_R x) (nT i) = true ∧ z_qr (x_R x) = true then (zI (z_tm (x_R x) + to), x_sR x (z_sS (x_R x) (nT s) (s_X (z_S (x_R x) (nT s)), true, s_du (z_S (x_R x) (nT s)), nT i, to, z_tm (x_R x)))) else (.inr ISE, x) else (.inr IAE, x)
set_option maxHeartbeats 4000000 in
set_option maxRecDepth 100000 in
theorem c_zs_open {l : Launch} {G : q_G} (htr : l.stackTraces = false) {x : zX} {s i to : Int32} (hx : xOK x) : q_Met l G m_zs_open 8 127 16 96 [.ref (1), .int (s), .int (i), .int (to)] (zs_put (x_h x) (x_R x)) (x_N x) (q_Z (z_open s i to x)) := by
  obtain ⟨r, hr0⟩ : ∃ r, r = z_open s i to x := ⟨_, rfl⟩
  rw [← hr0]
  refine q_Met.mk htr (by decide +kernel) rfl (List.forall_mem_cons.mpr ⟨rfl, List.forall_mem_cons.mpr ⟨rfl, List.forall_mem_cons.mpr ⟨rfl, List.forall_mem_cons.mpr ⟨rfl, fun _ h => nomatch h⟩⟩⟩⟩) (Nat.le_of_ble_eq_true rfl) ?_
  refine e_iload_n (pc := 0) d_zs_open_0 rfl ?_
  refine e_callS (As := [.int (s)]) (st := []) (cc2 := 15) (ss2 := 90) (pc := 1) d_zs_open_1 rfl cs_zs_40 (c_zs_requireSession htr) rfl (by decide) (by decide) (by omega) (by omega) (Nat.le_of_ble_eq_true rfl) (fun _ _ _ hq => q_Z_bad (fun z => by rw [hr0]; unfold z_open; rw [if_neg (fun w => z w.1)]) hq (Nat.le_refl _)) (fun r h2 N2 hq => ?_)
  obtain ⟨e1, -, ⟨hok, hr, e2⟩ | ⟨-, hr⟩⟩ := hq; rotate_left; exact nomatch hr
  cases hr
  rw [e1, e2]
  clear e1 e2
  show q_Ev l G m_zs_open 8 127 15 90 4 [some (.ref (1)), some (.int (s)), some (.int (i)), some (.int (to)), none] [] (zs_put (x_h x) (x_R x)) (x_N x) _
  have hok1 := hok
  refine e_iload_n (pc := 4) d_zs_open_4 rfl ?_
  refine e_callS (As := [.int (i)]) (st := []) (cc2 := 14) (ss2 := 84) (pc := 5) d_zs_open_5 rfl cs_zs_44 (c_zs_requireServer htr) rfl (by decide) (by decide) (by omega) (by omega) (Nat.le_of_ble_eq_true rfl) (fun _ _ _ hq => q_Z_bad (fun z => by rw [hr0]; unfold z_open; rw [if_neg (fun w => z w.2.1)]) hq (Nat.le_refl _)) (fun r h2 N2 hq => ?_)
  obtain ⟨e1, -, ⟨hok, hr, e2⟩ | ⟨-, hr⟩⟩ := hq; rotate_left; exact nomatch hr
  cases hr
  rw [e1, e2]
  clear e1 e2
  show q_Ev l G m_zs_open 8 127 14 84 8 [some (.ref (1)), some (.int (s)), some (.int (i)), some (.int (to)), none] [] (zs_put (x_h x) (x_R x)) (x_N x) _
  have hok2 := hok
  refine e_iload_n (pc := 8) d_zs_open_8 rfl ?_
  refine e_iconst (pc := 9) d_zs_open_9 (v := (nI (1))) rfl ?_
  refine e_bipush (pc := 10) d_zs_open_10 (v := (nI (50))) rfl ?_
  refine e_callS (As := [.int (to), .int (nI (1)), .int (nI (50))]) (st := []) (cc2 := 13) (ss2 := 78) (pc := 12) d_zs_open_12 rfl cs_zs_47 (c_zs_requireRange htr) rfl (by decide) (by decide) (by omega) (by omega) (Nat.le_of_ble_eq_true rfl) (fun _ _ _ hq => q_Z_bad (fun z => by rw [hr0]; unfold z_open; rw [if_neg (fun w => z w.2.2)]) hq (Nat.le_refl _)) (fun r h2 N2 hq => ?_)
  obtain ⟨e1, -, ⟨hok, hr, e2⟩ | ⟨-, hr⟩⟩ := hq; rotate_left; exact nomatch hr
  cases hr
  rw [e1, e2]
  clear e1 e2
  show q_Ev l G m_zs_open 8 127 13 78 15 [some (.ref (1)), some (.int (s)), some (.int (i)), some (.int (to)), none] [] (zs_put (x_h x) (x_R x)) (x_N x) _
  have hok3 := hok
  obtain ⟨j, hj, ej⟩ := q_ofL (n := 3) (by decide) hok1
  obtain ⟨k, hk, ek⟩ := q_ofL (n := 2) (by decide) hok2
  subst ej ek
  unfold z_open at hr0
  rw [if_pos ⟨hok1, hok2, hok3⟩, nT_n (by omega), nT_n (by omega)] at hr0
  refine e_aload_n (pc := 15) d_zs_open_15 rfl ?_
  refine e_get (pc := 16) d_zs_open_16 fl_zs_17 zs_g1 rfl ?_
  refine e_iload_n (pc := 19) d_zs_open_19 rfl ?_
  refine e_aaldN (pc := 20) d_zs_open_20 zs_g3 (fun _ => rfl) (by omega) (by decide) rfl ?_
  refine e_astore (pc := 21) d_zs_open_21 (by decide) ?_
  refine e_aload (pc := 23) d_zs_open_23 rfl ?_
  refine e_get (pc := 25) d_zs_open_25 fl_zs_51 (zs_s hj).1 rfl ?_
  refine e_ifB_ne (pc := 28) (tgt := 54) d_zs_open_28 (by decide) (fun c1 => ?_) (fun c1 => ?_)
  · exact e_throw (pc := 54) rfl xx_zs_66 d_zs_open_54 d_zs_open_57 d_zs_open_58 d_zs_open_61 (by decide) (Nat.le_of_ble_eq_true rfl) (by omega) (by omega) (fun N2 hN => by rw [hr0, if_neg (fun w => by rw [c1] at w; exact absurd w.1 (by decide))]; exact ⟨rfl, rfl, hN⟩)
  · refine e_aload (pc := 31) d_zs_open_31 rfl ?_
    refine e_get (pc := 33) d_zs_open_33 fl_zs_55 (zs_s hj).1 rfl ?_
    refine e_ifB_ne (pc := 36) (tgt := 54) d_zs_open_36 (by decide) (fun c2 => ?_) (fun c2 => ?_)
    · exact e_throw (pc := 54) rfl xx_zs_66 d_zs_open_54 d_zs_open_57 d_zs_open_58 d_zs_open_61 (by decide) (Nat.le_of_ble_eq_true rfl) (by omega) (by omega) (fun N2 hN => by rw [hr0, if_neg (fun w => by rw [c2] at w; exact absurd w.2.1 (by decide))]; exact ⟨rfl, rfl, hN⟩)
    · refine e_aload_n (pc := 39) d_zs_open_39 rfl ?_
      refine e_iload_n (pc := 40) d_zs_open_40 rfl ?_
      refine e_callV (As := [.int (nI (k))]) (st := []) (cc2 := 13) (ss2 := 78) (pc := 41) d_zs_open_41 rfl cv_zs_58 zs_g1 rfl (c_zs_isLinked htr hx.1.1 hk) rfl (by decide) (by decide) (by omega) (by omega) (Nat.le_of_ble_eq_true rfl) (fun _ _ _ hq => nomatch hq.1) (fun r h2 N2 hq => ?_)
      obtain ⟨hr, e1, e2⟩ := hq
      cases hr
      rw [e1, e2]
      clear e1 e2
      show q_Ev l G m_zs_open 8 127 13 78 44 [some (.ref (1)), some (.int (nI (j))), some (.int (nI (k))), some (.int (to)), some (.ref (30 + 3 * (j)))] [.int (bI (z_lk (x_R x) k))] (zs_put (x_h x) (x_R x)) (x_N x) _
      refine e_ifB_eq (pc := 44) (tgt := 54) d_zs_open_44 (by decide) (fun c3 => ?_) (fun c3 => ?_)
      · exact e_throw (pc := 54) rfl xx_zs_66 d_zs_open_54 d_zs_open_57 d_zs_open_58 d_zs_open_61 (by decide) (Nat.le_of_ble_eq_true rfl) (by omega) (by omega) (fun N2 hN => by rw [hr0, if_neg (fun w => by rw [c3] at w; exact absurd w.2.2.1 (by decide))]; exact ⟨rfl, rfl, hN⟩)
      · refine e_aload_n (pc := 47) d_zs_open_47 rfl ?_
        refine e_callV (As := []) (st := []) (cc2 := 13) (ss2 := 78) (pc := 48) d_zs_open_48 rfl cv_zs_62 zs_g1 rfl (c_zs_hasQuorum htr hx.1.1) rfl (by decide) (by decide) (by omega) (by omega) (Nat.le_of_ble_eq_true rfl) (fun _ _ _ hq => nomatch hq.1) (fun r h2 N2 hq => ?_)
        obtain ⟨hr, e1, e2⟩ := hq
        cases hr
        rw [e1, e2]
        clear e1 e2
        show q_Ev l G m_zs_open 8 127 13 78 51 [some (.ref (1)), some (.int (nI (j))), some (.int (nI (k))), some (.int (to)), some (.ref (30 + 3 * (j)))] [.int (bI (z_qr (x_R x)))] (zs_put (x_h x) (x_R x)) (x_N x) _
        refine e_ifB_ne (pc := 51) (tgt := 62) d_zs_open_51 (by decide) (fun c4 => ?_) (fun c4 => ?_)
        · rw [if_pos ⟨c1, c2, c3, c4⟩] at hr0
          refine e_aload (pc := 62) d_zs_open_62 rfl ?_
          refine e_iload_n (pc := 64) d_zs_open_64 rfl ?_
          refine e_iload_n (pc := 65) d_zs_open_65 rfl ?_
          refine e_aload_n (pc := 66) d_zs_open_66 rfl ?_
          refine e_get (pc := 67) d_zs_open_67 fl_zs_35 zs_g1 rfl ?_
          refine e_callV (As := [.int (nI (k)), .int (to), .int (z_tm (x_R x))]) (st := []) (cc2 := 13) (ss2 := 78) (pc := 70) d_zs_open_70 rfl cv_zs_69 (zs_s hj).1 rfl (c_ss_start htr (zs_s hj)) rfl (by decide) (by decide) (by omega) (by omega) (Nat.le_of_ble_eq_true rfl) (fun _ _ _ hq => nomatch hq.1) (fun r h2 N2 hq => ?_)
          obtain ⟨hr, e1, e2⟩ := hq
          cases hr
          rw [e1, e2]
          clear e1 e2
          show q_Ev l G m_zs_open 8 127 13 78 73 [some (.ref (1)), some (.int (nI (j))), some (.int (nI (k))), some (.int (to)), some (.ref (30 + 3 * (j)))] [] _ (x_N x) _
          rw [zs_uS hj]
          refine e_aload_n (pc := 73) d_zs_open_73 rfl ?_
          refine e_get (pc := 74) d_zs_open_74 fl_zs_35 (zs_g1 (R := (z_sS (x_R x) j (s_X (z_S (x_R x) j), true, s_du (z_S (x_R x) j), k, to, z_tm (x_R x))))) rfl ?_
          refine e_iload_n (pc := 77) d_zs_open_77 rfl ?_
          refine e_iadd (pc := 78) d_zs_open_78  ?_
          exact e_iret (pc := 79) d_zs_open_79 rfl (by rw [hr0]; exact ⟨rfl, rfl, Nat.le_refl _⟩)
        · exact e_throw (pc := 54) rfl xx_zs_66 d_zs_open_54 d_zs_open_57 d_zs_open_58 d_zs_open_61 (by decide) (Nat.le_of_ble_eq_true rfl) (by omega) (by omega) (fun N2 hN => by rw [hr0, if_neg (fun w => by rw [c4] at w; exact absurd w.2.2.2 (by decide))]; exact ⟨rfl, rfl, hN⟩)
