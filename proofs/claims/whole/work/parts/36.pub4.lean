/-! THE CLASS'S PUBLIC METHODS (4): tick, close, set, delete -/
/-- session j ends -/
def z_en (R : zR) (j : Nat) : zR := z_sS R j ((fillN (s_X (z_S R j)).1 259 (nI 0), (s_X (z_S R j)).2.1, 0), false, true, s_sv (z_S R j), s_to (z_S R j), s_he (z_S R j))
def z_xp (R : zR) (j : Nat) : Bool := s_op (z_S R j) && !decide (z_tm R < s_he (z_S R j) + s_to (z_S R j))
def tkK (R : zR) : Nat → zR × Nat
  | 0 => (R, 0)
  | n + 1 => if z_xp (tkK R n).1 n = true then (z_en (tkK R n).1 n, (tkK R n).2 + 1) else tkK R n
theorem zOK_en {h : q_H} {E : Nat → zE} {R : zR} (hO : zOK h E R) (j : Nat) : zOK h E (z_en R j) := zOK_sS hO j (hO.2.1 j).1 (by show 0 ≤ 8; decide)
theorem zOK_tkK {h : q_H} {E : Nat → zE} {R : zR} (hO : zOK h E R) : ∀ n, zOK h E (tkK R n).1 := by
  intro n
  induction n with
  | zero => exact hO
  | succ n ih =>
    unfold tkK
    split
    · exact zOK_en ih n
    · exact ih
theorem tkK_le (R : zR) : ∀ n, (tkK R n).2 ≤ n := by
  intro n
  induction n with
  | zero => exact Nat.le_refl _
  | succ n ih =>
    unfold tkK
    split
    · show (tkK R n).2 + 1 ≤ n + 1; omega
    · omega
def z_tk0 (b : Int32) (x : zX) : zX := x_sR x (z_s0 (x_R x) (z_ld (x_R x)) (z_ep (x_R x)) (z_tm (x_R x) + b))
def z_tick (b : Int32) (x : zX) : zO := if (nI 0 ≤ b ∧ b ≤ nI 20) then (zI (nI (tkK (x_R (z_tk0 b x)) 4).2), x_cd (x_sR x (tkK (x_R (z_tk0 b x)) 4).1)) else (.inr IAE, x)
set_option maxHeartbeats 4000000 in
set_option maxRecDepth 100000 in
theorem lp_zs_tick {l : Launch} {G : q_G} (htr : l.stackTraces = false) {h : q_H} {N : Nat} {R : zR} {E : Nat → zE} (hO : zOK h E R) {b : Int32} {Q : q_Q} (kk : q_Ev l G m_zs_tick 7 136 15 90 74 [some (.ref 1), none, some (.int (nI (tkK R 4).2)), none, none] [] (zs_put h (tkK R 4).1) N Q) : ∀ (g n : Nat), 4 < n + g → n ≤ 4 → q_Ev l G m_zs_tick 7 136 15 90 21 [some (.ref (1)), some (.int (b)), some (.int (nI ((tkK R n).2))), some (.int (nI (n))), none] [] (zs_put h (tkK R n).1) N Q := by
  intro g
  induction g with
  | zero => intro n hg hn; omega
  | succ g ih =>
    intro n hg hn
    have hOn := zOK_tkK hO n
    have hcn := tkK_le R n
    refine e_iload_n (pc := 21) d_zs_tick_21 rfl ?_
    refine e_iconst (pc := 22) d_zs_tick_22 (v := (nI (4))) rfl ?_
    refine e_icmp_geN (pc := 23) (tgt := 74) d_zs_tick_23 (by decide) (by omega) (by omega) (fun c => ?_) (fun c => ?_)
    · have hn4 : n = 4 := by omega
      subst hn4
      exact q_Ev.fo [some (.ref 1), none, some (.int (nI (tkK R 4).2)), none, none] ⟨rfl, rfl, trivial⟩ kk
    · refine e_aload_n (pc := 26) d_zs_tick_26 rfl ?_
      refine e_get (pc := 27) d_zs_tick_27 fl_zs_17 zs_g1 rfl ?_
      refine e_iload_n (pc := 30) d_zs_tick_30 rfl ?_
      refine e_aaldN (pc := 31) d_zs_tick_31 zs_g3 (fun _ => rfl) (by omega) (by decide) rfl ?_
      refine e_astore (pc := 32) d_zs_tick_32 (by decide) ?_
      refine e_aload (pc := 34) d_zs_tick_34 rfl ?_
      refine e_get (pc := 36) d_zs_tick_36 fl_zs_51 (zs_s c).1 rfl ?_
      refine e_ifB_eq (pc := 39) (tgt := 68) d_zs_tick_39 (by decide) (fun c2 => ?_) (fun c2 => ?_)
      · refine e_iincN (pc := 68) d_zs_tick_68 (a := n) (b := 1) rfl rfl (by decide) ?_
        refine e_goto (pc := 71) (tgt := 21) d_zs_tick_71 (by decide) ?_
        refine q_Ev.fo [some (.ref 1), some (.int b), some (.int (nI (tkK R n).2)), some (.int (nI (n + 1))), none] ⟨rfl, rfl, rfl, rfl, trivial⟩ ?_
        have e1 : tkK R (n + 1) = tkK R n := by rw [tkK, if_neg (by unfold z_xp; rw [c2]; exact fun w => Bool.noConfusion w)]
        have := ih (n + 1) (by omega) (by omega)
        rw [e1] at this
        exact this
      · refine e_aload (pc := 42) d_zs_tick_42 rfl ?_
        refine e_get (pc := 44) d_zs_tick_44 fl_zs_88 (zs_s c).1 rfl ?_
        refine e_aload (pc := 47) d_zs_tick_47 rfl ?_
        refine e_get (pc := 49) d_zs_tick_49 fl_zs_202 (zs_s c).1 rfl ?_
        refine e_iadd (pc := 52) d_zs_tick_52  ?_
        refine e_aload_n (pc := 53) d_zs_tick_53 rfl ?_
        refine e_get (pc := 54) d_zs_tick_54 fl_zs_35 zs_g1 rfl ?_
        refine e_icmp_gt (pc := 57) (tgt := 68) d_zs_tick_57 (by decide) (fun c3 => ?_) (fun c3 => ?_)
        · refine e_iincN (pc := 68) d_zs_tick_68 (a := n) (b := 1) rfl rfl (by decide) ?_
          refine e_goto (pc := 71) (tgt := 21) d_zs_tick_71 (by decide) ?_
          refine q_Ev.fo [some (.ref 1), some (.int b), some (.int (nI (tkK R n).2)), some (.int (nI (n + 1))), none] ⟨rfl, rfl, rfl, rfl, trivial⟩ ?_
          have e1 : tkK R (n + 1) = tkK R n := by rw [tkK, if_neg (by unfold z_xp; rw [c2, decide_eq_true c3]; decide)]
          have := ih (n + 1) (by omega) (by omega)
          rw [e1] at this
          exact this
        · refine e_aload (pc := 60) d_zs_tick_60 rfl ?_
          refine e_callV (As := []) (st := []) (cc2 := 15) (ss2 := 90) (pc := 62) d_zs_tick_62 rfl cv_zs_82 (zs_s c).1 rfl (c_ss_end htr (zs_s c)) rfl (by decide) (by decide) (by omega) (by omega) (Nat.le_of_ble_eq_true rfl) (fun _ _ _ hq => nomatch hq.1) (fun r h2 N2 hq => ?_)
          obtain ⟨hr, e1, e2⟩ := hq
          cases hr
          rw [e1, e2]
          clear e1 e2
          show q_Ev l G m_zs_tick 7 136 15 90 65 [some (.ref (1)), some (.int (b)), some (.int (nI ((tkK R n).2))), some (.int (nI (n))), some (.ref (30 + 3 * (n)))] [] _ N _
          rw [zs_uS c]
          refine e_iincN (pc := 65) d_zs_tick_65 (a := (tkK R n).2) (b := 1) rfl rfl (by decide) ?_
          refine e_iincN (pc := 68) d_zs_tick_68 (a := n) (b := 1) rfl rfl (by decide) ?_
          refine e_goto (pc := 71) (tgt := 21) d_zs_tick_71 (by decide) ?_
          refine q_Ev.fo [some (.ref 1), some (.int b), some (.int (nI ((tkK R n).2 + 1))), some (.int (nI (n + 1))), none] ⟨rfl, rfl, rfl, rfl, trivial⟩ ?_
          have e1 : tkK R (n + 1) = (z_en (tkK R n).1 n, (tkK R n).2 + 1) := by rw [tkK, if_pos (by unfold z_xp; rw [c2, decide_eq_false c3]; decide)]
          have := ih (n + 1) (by omega) (by omega)
          rw [e1] at this
          exact this
set_option maxHeartbeats 4000000 in
set_option maxRecDepth 100000 in
theorem c_zs_tick {l : Launch} {G : q_G} (htr : l.stackTraces = false) {x : zX} {b : Int32} (hx : xOK x) (hc : clOK 4 0 (x_sR x (tkK (x_R (z_tk0 b x)) 4).1)) : q_Met l G m_zs_tick 7 136 16 96 [.ref (1), .int (b)] (zs_put (x_h x) (x_R x)) (x_N x) (q_Z (z_tick b x)) := by
  obtain ⟨r, hr0⟩ : ∃ r, r = z_tick b x := ⟨_, rfl⟩
  rw [← hr0]
  refine q_Met.mk htr (by decide +kernel) rfl (List.forall_mem_cons.mpr ⟨rfl, List.forall_mem_cons.mpr ⟨rfl, fun _ h => nomatch h⟩⟩) (Nat.le_of_ble_eq_true rfl) ?_
  refine e_iload_n (pc := 0) d_zs_tick_0 rfl ?_
  refine e_iconst (pc := 1) d_zs_tick_1 (v := (nI (0))) rfl ?_
  refine e_bipush (pc := 2) d_zs_tick_2 (v := (nI (20))) rfl ?_
  refine e_callS (As := [.int (b), .int (nI (0)), .int (nI (20))]) (st := []) (cc2 := 15) (ss2 := 90) (pc := 4) d_zs_tick_4 rfl cs_zs_47 (c_zs_requireRange htr) rfl (by decide) (by decide) (by omega) (by omega) (Nat.le_of_ble_eq_true rfl) (fun _ _ _ hq => q_Z_bad (fun z => by rw [hr0]; unfold z_tick; rw [if_neg z]) hq (Nat.le_refl _)) (fun r h2 N2 hq => ?_)
  obtain ⟨e1, -, ⟨hok, hr, e2⟩ | ⟨-, hr⟩⟩ := hq; rotate_left; exact nomatch hr
  cases hr
  rw [e1, e2]
  clear e1 e2
  show q_Ev l G m_zs_tick 7 136 15 90 7 [some (.ref (1)), some (.int (b)), none, none, none] [] (zs_put (x_h x) (x_R x)) (x_N x) _
  have hok1 := hok
  unfold z_tick at hr0
  rw [if_pos hok1] at hr0
  refine e_aload_n (pc := 7) d_zs_tick_7 rfl ?_
  refine e_dup (pc := 8) d_zs_tick_8 rfl ?_
  refine e_get (pc := 9) d_zs_tick_9 fl_zs_35 zs_g1 rfl ?_
  refine e_iload_n (pc := 12) d_zs_tick_12 rfl ?_
  refine e_iadd (pc := 13) d_zs_tick_13  ?_
  refine e_putE (pc := 14) (fs2 := [.ref 2, .ref 3, .ref 4, .int (ldI (z_ld (x_R x))), .int (nI (z_ep (x_R x))), .int (z_tm (x_R x) + b)]) d_zs_tick_14 fl_zs_35 zs_g1 (Nat.le_of_ble_eq_true rfl) (fun _ => rfl) (fun _ => rfl) rfl ?_
  rw [zs_u1]
  refine e_iconst (pc := 17) d_zs_tick_17 (v := (nI (0))) rfl ?_
  refine e_istore_n (pc := 18) d_zs_tick_18 (by decide) ?_
  refine e_iconst (pc := 19) d_zs_tick_19 (v := (nI (0))) rfl ?_
  refine e_istore_n (pc := 20) d_zs_tick_20 (by decide) ?_
  have hO0 : zOK (x_h x) (x_E x) (x_R (z_tk0 b x)) := zOK_s0 hx.1 _ hx.1.1 hx.1.2.2.1
  refine lp_zs_tick htr hO0 ?_ 5 0 (by omega) (by omega)
  obtain ⟨y, hy⟩ : ∃ y, y = x_sR x (tkK (x_R (z_tk0 b x)) 4).1 := ⟨_, rfl⟩
  have hxy : xOK y := by rw [hy]; exact ⟨zOK_tkK hO0 4, hx.2⟩
  rw [← hy] at hr0 hc
  refine q_Ev.hp (h1 := zs_put (x_h y) (x_R y)) (by rw [hy]; rfl) ?_
  have eN : x_N x = x_N y := by rw [hy]; rfl
  rw [eN]
  refine e_aload_n (pc := 74) d_zs_tick_74 rfl ?_
  refine e_callV (As := []) (st := []) (cc2 := 11) (ss2 := 70) (pc := 75) d_zs_tick_75 rfl cv_zs_85 zs_g1 rfl (c_zs_closeDue htr hxy hc) rfl (by decide) (by decide) (by omega) (by omega) (Nat.le_of_ble_eq_true rfl) (fun _ _ _ hq => nomatch hq.1) (fun r h2 N2 hq => ?_)
  obtain ⟨hr, e1, e2⟩ := hq
  cases hr
  rw [e1, e2]
  clear e1 e2
  show q_Ev l G m_zs_tick 7 136 11 70 78 [some (.ref (1)), none, some (.int (nI ((tkK (x_R (z_tk0 b x)) 4).2))), none, none] [] _ _ _
  refine e_iload_n (pc := 78) d_zs_tick_78 rfl ?_
  exact e_iret (pc := 79) d_zs_tick_79 rfl (by rw [hr0]; exact ⟨rfl, rfl, Nat.le_refl _⟩)
def z_close (s : Int32) (x : zX) : zO := if (nI 0 ≤ s ∧ s ≤ nI 3) then if z_rc (x_R x) (nT s) = true ∧ z_qr (x_R x) = true then (zI (nI (z_cO (x_R x) (nI (nT s)))), x_cd (x_sR x (z_en (x_R x) (nT s)))) else (.inr ISE, x) else (.inr IAE, x)
set_option maxHeartbeats 4000000 in
set_option maxRecDepth 100000 in
theorem c_zs_close {l : Launch} {G : q_G} (htr : l.stackTraces = false) {x : zX} {s : Int32} (hx : xOK x) (hc : ∀ j, j < 4 → clOK 4 0 (x_sR x (z_en (x_R x) j))) : q_Met l G m_zs_close 8 136 16 96 [.ref (1), .int (s)] (zs_put (x_h x) (x_R x)) (x_N x) (q_Z (z_close s x)) := by
  obtain ⟨r, hr0⟩ : ∃ r, r = z_close s x := ⟨_, rfl⟩
  rw [← hr0]
  refine q_Met.mk htr (by decide +kernel) rfl (List.forall_mem_cons.mpr ⟨rfl, List.forall_mem_cons.mpr ⟨rfl, fun _ h => nomatch h⟩⟩) (Nat.le_of_ble_eq_true rfl) ?_
  refine e_iload_n (pc := 0) d_zs_close_0 rfl ?_
  refine e_callS (As := [.int (s)]) (st := []) (cc2 := 15) (ss2 := 90) (pc := 1) d_zs_close_1 rfl cs_zs_40 (c_zs_requireSession htr) rfl (by decide) (by decide) (by omega) (by omega) (Nat.le_of_ble_eq_true rfl) (fun _ _ _ hq => q_Z_bad (fun z => by rw [hr0]; unfold z_close; rw [if_neg z]) hq (Nat.le_refl _)) (fun r h2 N2 hq => ?_)
  obtain ⟨e1, -, ⟨hok, hr, e2⟩ | ⟨-, hr⟩⟩ := hq; rotate_left; exact nomatch hr
  cases hr
  rw [e1, e2]
  clear e1 e2
  show q_Ev l G m_zs_close 8 136 15 90 4 [some (.ref (1)), some (.int (s)), none] [] (zs_put (x_h x) (x_R x)) (x_N x) _
  have hok1 := hok
  obtain ⟨j, hj, ej⟩ := q_ofL (n := 3) (by decide) hok
  subst ej
  unfold z_close at hr0
  rw [if_pos hok1, nT_n (by omega)] at hr0
  refine e_aload_n (pc := 4) d_zs_close_4 rfl ?_
  refine e_iload_n (pc := 5) d_zs_close_5 rfl ?_
  refine e_callV (As := [.int (nI (j))]) (st := []) (cc2 := 14) (ss2 := 84) (pc := 6) d_zs_close_6 rfl cv_zs_72 zs_g1 rfl (c_zs_requireReach htr hx.1.1 hj (hx.1.2.1 j).1) rfl (by decide) (by decide) (by omega) (by omega) (Nat.le_of_ble_eq_true rfl) (fun _ _ _ hq => q_Z_bad (fun z => by rw [hr0, if_neg (fun w => z w.1)]) hq (Nat.le_refl _)) (fun r h2 N2 hq => ?_)
  obtain ⟨e1, -, ⟨hok, hr, e2⟩ | ⟨-, hr⟩⟩ := hq; rotate_left; exact nomatch hr
  cases hr
  rw [e1, e2]
  clear e1 e2
  show q_Ev l G m_zs_close 8 136 14 84 9 [some (.ref (1)), some (.int (nI (j))), none] [] (zs_put (x_h x) (x_R x)) (x_N x) _
  have hrc := hok
  refine e_aload_n (pc := 9) d_zs_close_9 rfl ?_
  refine e_callV (As := []) (st := []) (cc2 := 13) (ss2 := 78) (pc := 10) d_zs_close_10 rfl cv_zs_75 zs_g1 rfl (c_zs_requireQuorum htr hx.1.1) rfl (by decide) (by decide) (by omega) (by omega) (Nat.le_of_ble_eq_true rfl) (fun _ _ _ hq => q_Z_bad (fun z => by rw [hr0, if_neg (fun w => z w.2)]) hq (Nat.le_refl _)) (fun r h2 N2 hq => ?_)
  obtain ⟨e1, -, ⟨hok, hr, e2⟩ | ⟨-, hr⟩⟩ := hq; rotate_left; exact nomatch hr
  cases hr
  rw [e1, e2]
  clear e1 e2
  show q_Ev l G m_zs_close 8 136 13 78 13 [some (.ref (1)), some (.int (nI (j))), none] [] (zs_put (x_h x) (x_R x)) (x_N x) _
  rw [if_pos ⟨hrc, hok⟩] at hr0
  refine e_aload_n (pc := 13) d_zs_close_13 rfl ?_
  refine e_get (pc := 14) d_zs_close_14 fl_zs_24 zs_g1 rfl ?_
  refine e_iload_n (pc := 17) d_zs_close_17 rfl ?_
  refine e_callV (As := [.int (nI (j))]) (st := []) (cc2 := 13) (ss2 := 78) (pc := 18) d_zs_close_18 rfl cv_zs_78 zs_tP.1 rfl (c_tr_countOwned htr (zs_tP (R := x_R x)) (s := nI j)) rfl (by decide) (by decide) (by omega) (by omega) (Nat.le_of_ble_eq_true rfl) (fun _ _ _ hq => nomatch hq.1) (fun r h2 N2 hq => ?_)
  obtain ⟨hr, e1, e2⟩ := hq
  cases hr
  rw [e1, e2]
  clear e1 e2
  show q_Ev l G m_zs_close 8 136 13 78 21 [some (.ref (1)), some (.int (nI (j))), none] [.int (nI (z_cO (x_R x) (nI j)))] (zs_put (x_h x) (x_R x)) (x_N x) _
  refine e_istore_n (pc := 21) d_zs_close_21 (by decide) ?_
  refine e_aload_n (pc := 22) d_zs_close_22 rfl ?_
  refine e_get (pc := 23) d_zs_close_23 fl_zs_17 zs_g1 rfl ?_
  refine e_iload_n (pc := 26) d_zs_close_26 rfl ?_
  refine e_aaldN (pc := 27) d_zs_close_27 zs_g3 (fun _ => rfl) (by omega) (by decide) rfl ?_
  refine e_callV (As := []) (st := []) (cc2 := 13) (ss2 := 78) (pc := 28) d_zs_close_28 rfl cv_zs_82 (zs_s hj).1 rfl (c_ss_end htr (zs_s hj)) rfl (by decide) (by decide) (by omega) (by omega) (Nat.le_of_ble_eq_true rfl) (fun _ _ _ hq => nomatch hq.1) (fun r h2 N2 hq => ?_)
  obtain ⟨hr, e1, e2⟩ := hq
  cases hr
  rw [e1, e2]
  clear e1 e2
  show q_Ev l G m_zs_close 8 136 13 78 31 [some (.ref (1)), some (.int (nI (j))), some (.int (nI (z_cO (x_R x) (nI j))))] [] _ (x_N x) _
  rw [zs_uS hj]
  obtain ⟨y, hy⟩ : ∃ y, y = x_sR x (z_en (x_R x) j) := ⟨_, rfl⟩
  have hxy : xOK y := by rw [hy]; exact ⟨zOK_en hx.1 j, hx.2⟩
  have hcy : clOK 4 0 y := by rw [hy]; exact hc j hj
  rw [← hy] at hr0
  refine q_Ev.hp (h1 := zs_put (x_h y) (x_R y)) (by rw [hy]; rfl) ?_
  have eN : x_N x = x_N y := by rw [hy]; rfl
  rw [eN]
  refine e_aload_n (pc := 31) d_zs_close_31 rfl ?_
  refine e_callV (As := []) (st := []) (cc2 := 9) (ss2 := 58) (pc := 32) d_zs_close_32 rfl cv_zs_85 zs_g1 rfl (c_zs_closeDue htr hxy hcy) rfl (by decide) (by decide) (by omega) (by omega) (Nat.le_of_ble_eq_true rfl) (fun _ _ _ hq => nomatch hq.1) (fun r h2 N2 hq => ?_)
  obtain ⟨hr, e1, e2⟩ := hq
  cases hr
  rw [e1, e2]
  clear e1 e2
  show q_Ev l G m_zs_close 8 136 9 58 35 [some (.ref (1)), some (.int (nI (j))), some (.int (nI (z_cO (x_R x) (nI j))))] [] _ _ _
  refine e_iload_n (pc := 35) d_zs_close_35 rfl ?_
  exact e_iret (pc := 36) d_zs_close_36 rfl (by rw [hr0]; exact ⟨rfl, rfl, Nat.le_refl _⟩)
/-- a new ENTRY's cell is made -/
def x_ent (e : zE) (x : zX) : zX := (q_up (x_h x) (x_N x + 1) (en_ob e), va_up (x_E x) (x_N x + 1) e, x_N x + 1, x_R x)
/-- an ENTRY is proposed for a caller -/
def z_prop (e : zE) (ans : zX → Int32) (x : zX) : zO := if z_full (x_R x) = true then (.inr ISE, x_ent e x) else if z_qr (x_R (x_pr e x)) = true then (zI (ans (x_pr e x)), x_pr e x) else (.inr ISE, x_pr e x)
theorem c_zs_propose {l : Launch} {G : q_G} (htr : l.stackTraces = false) {x : zX} (hx : xOK x) (hf : x_h x (x_N x + 1) = none) {e : zE} (he : eOK e) : q_Met l G m_zs_proposeChange 7 115 1 6 [.ref 1, .ref (x_N x + 1)] (zs_put (x_h (x_ent e x)) (x_R x)) (x_N x + 1) (fun o h' N' => x_N x + 1 ≤ N' ∧ ((z_full (x_R x) = true ∧ h' = zs_put (x_h (x_ent e x)) (x_R x) ∧ o = .inr ISE) ∨ (z_full (x_R x) = false ∧ h' = zs_put (x_h (x_pr e x)) (x_R (x_pr e x)) ∧ ((z_qr (x_R (x_pr e x)) = true ∧ o = .inl none ∧ N' = x_N x + 1) ∨ (z_qr (x_R (x_pr e x)) = false ∧ o = .inr ISE))))) := by
  have hN : 41 < x_N x + 1 := Nat.lt_succ_of_le hx.2
  have hE : va_up (x_E x) (x_N x + 1) e (x_N x + 1) = e := by simp [va_up]
  have := c_zs_proposeChange (l := l) (G := G) htr (N := x_N x + 1) (zOK_new hx.1 hf e) (a := x_N x + 1) hN (by rw [hE]; exact en_new e) (by rw [hE]; exact he)
  rw [hE] at this
  exact this
theorem q_Z_pr {e : zE} {ans : zX → Int32} {x : zX} {r : zO} {E : String} {h' : q_H} {N' : Nat} (hr : r = z_prop e ans x) (hq : x_N x + 1 ≤ N' ∧ ((z_full (x_R x) = true ∧ h' = zs_put (x_h (x_ent e x)) (x_R x) ∧ (.inr E : Option Value ⊕ String) = .inr ISE) ∨ (z_full (x_R x) = false ∧ h' = zs_put (x_h (x_pr e x)) (x_R (x_pr e x)) ∧ ((z_qr (x_R (x_pr e x)) = true ∧ (.inr E : Option Value ⊕ String) = .inl none ∧ N' = x_N x + 1) ∨ (z_qr (x_R (x_pr e x)) = false ∧ (.inr E : Option Value ⊕ String) = .inr ISE))))) : q_Z r (.inr E) h' N' := by
  rw [hr]
  unfold z_prop
  obtain ⟨h1, ⟨h2, h3, h4⟩ | ⟨h2, h3, ⟨-, h4, -⟩ | ⟨h4, h5⟩⟩⟩ := hq
  · rw [if_pos h2]
    exact ⟨h4, h3, h1⟩
  · cases h4
  · rw [if_neg (by rw [h2]; decide), if_neg (by rw [h4]; decide)]
    exact ⟨h5, h3, h1⟩
def z_set (s q v d : Int32) (x : zX) : zO := if (nI 0 ≤ s ∧ s ≤ nI 3) ∧ (nI 0 ≤ q ∧ q ≤ nI 258) ∧ -1 ≤ v then if z_rc (x_R x) (nT s) = true then if (z_P (x_R x)).2.1 (nT q) ≠ -1 then if z_ow (x_R x) (nT q) v = true then (zI (-2), x) else z_prop (1, nT q, d, -1, false) (fun y => (z_P (x_R y)).2.1 (nT q)) x else (.inr NSE, x) else (.inr ISE, x) else (.inr IAE, x)
def z_delete (s q v : Int32) (x : zX) : zO := if (nI 0 ≤ s ∧ s ≤ nI 3) ∧ (nI 1 ≤ q ∧ q ≤ nI 258) ∧ -1 ≤ v then if z_rc (x_R x) (nT s) = true then if (z_P (x_R x)).2.1 (nT q) ≠ -1 then if z_ow (x_R x) (nT q) v = true then (zI (-2), x) else if (if nT q < 43 then kidB (fun u => decide ((z_P (x_R x)).2.1 u ≠ -1)) (nT q) 6 else 0) = 0 then z_prop (2, nT q, nI 0, -1, false) (fun _ => (z_P (x_R x)).2.1 (nT q)) x else (.inr UOE, x) else (.inr NSE, x) else (.inr ISE, x) else (.inr IAE, x)
set_option maxHeartbeats 4000000 in
set_option maxRecDepth 100000 in
theorem c_zs_set {l : Launch} {G : q_G} (htr : l.stackTraces = false) {x : zX} {s q v dd : Int32} (hx : xOK x) : q_Met l G m_zs_set 8 136 16 96 [.ref (1), .int (s), .int (q), .int (v), .int (dd)] (zs_put (x_h x) (x_R x)) (x_N x) (q_Z (z_set s q v dd x)) := by
  obtain ⟨r, hr0⟩ : ∃ r, r = z_set s q v dd x := ⟨_, rfl⟩
  rw [← hr0]
  refine q_Met.mk htr (by decide +kernel) rfl (List.forall_mem_cons.mpr ⟨rfl, List.forall_mem_cons.mpr ⟨rfl, List.forall_mem_cons.mpr ⟨rfl, List.forall_mem_cons.mpr ⟨rfl, List.forall_mem_cons.mpr ⟨rfl, fun _ h => nomatch h⟩⟩⟩⟩⟩) (Nat.le_of_ble_eq_true rfl) ?_
  refine e_iload_n (pc := 0) d_zs_set_0 rfl ?_
  refine e_callS (As := [.int (s)]) (st := []) (cc2 := 15) (ss2 := 90) (pc := 1) d_zs_set_1 rfl cs_zs_40 (c_zs_requireSession htr) rfl (by decide) (by decide) (by omega) (by omega) (Nat.le_of_ble_eq_true rfl) (fun _ _ _ hq => q_Z_bad (fun z => by rw [hr0]; unfold z_set; rw [if_neg (fun u => z u.1)]) hq (Nat.le_refl _)) (fun r h2 N2 hq => ?_)
  obtain ⟨e1, -, ⟨hok, hr, e2⟩ | ⟨-, hr⟩⟩ := hq; rotate_left; exact nomatch hr
  cases hr
  rw [e1, e2]
  clear e1 e2
  show q_Ev l G m_zs_set 8 136 15 90 4 [some (.ref (1)), some (.int (s)), some (.int (q)), some (.int (v)), some (.int (dd))] [] (zs_put (x_h x) (x_R x)) (x_N x) _
  have hok1 := hok
  refine e_iload_n (pc := 4) d_zs_set_4 rfl ?_
  refine e_callS (As := [.int (q)]) (st := []) (cc2 := 14) (ss2 := 84) (pc := 5) d_zs_set_5 rfl cs_zs_142 (c_zs_requirePath htr) rfl (by decide) (by decide) (by omega) (by omega) (Nat.le_of_ble_eq_true rfl) (fun _ _ _ hq => q_Z_bad (fun z => by rw [hr0]; unfold z_set; rw [if_neg (fun u => z u.2.1)]) hq (Nat.le_refl _)) (fun r h2 N2 hq => ?_)
  obtain ⟨e1, -, ⟨hok, hr, e2⟩ | ⟨-, hr⟩⟩ := hq; rotate_left; exact nomatch hr
  cases hr
  rw [e1, e2]
  clear e1 e2
  show q_Ev l G m_zs_set 8 136 14 84 8 [some (.ref (1)), some (.int (s)), some (.int (q)), some (.int (v)), some (.int (dd))] [] (zs_put (x_h x) (x_R x)) (x_N x) _
  have hok2 := hok
  refine e_iload_n (pc := 8) d_zs_set_8 rfl ?_
  refine e_callS (As := [.int (v)]) (st := []) (cc2 := 13) (ss2 := 78) (pc := 9) d_zs_set_9 rfl cs_zs_145 (c_zs_requireVersion htr) rfl (by decide) (by decide) (by omega) (by omega) (Nat.le_of_ble_eq_true rfl) (fun _ _ _ hq => q_Z_bad (fun z => by rw [hr0]; unfold z_set; rw [if_neg (fun u => z u.2.2)]) hq (Nat.le_refl _)) (fun r h2 N2 hq => ?_)
  obtain ⟨e1, -, ⟨hok, hr, e2⟩ | ⟨-, hr⟩⟩ := hq; rotate_left; exact nomatch hr
  cases hr
  rw [e1, e2]
  clear e1 e2
  show q_Ev l G m_zs_set 8 136 13 78 12 [some (.ref (1)), some (.int (s)), some (.int (q)), some (.int (v)), some (.int (dd))] [] (zs_put (x_h x) (x_R x)) (x_N x) _
  have hok3 := hok
  obtain ⟨j, hj, ej⟩ := q_ofL (n := 3) (by decide) hok1
  obtain ⟨p, hp, ep⟩ := q_ofL (n := 258) (by decide) hok2
  subst ej ep
  unfold z_set at hr0
  rw [if_pos ⟨hok1, hok2, hok3⟩, nT_n (by omega), nT_n (by omega)] at hr0
  have hs := (hx.1.2.1 j).1
  refine e_aload_n (pc := 12) d_zs_set_12 rfl ?_
  refine e_iload_n (pc := 13) d_zs_set_13 rfl ?_
  refine e_callV (As := [.int (nI (j))]) (st := []) (cc2 := 12) (ss2 := 72) (pc := 14) d_zs_set_14 rfl cv_zs_72 zs_g1 rfl (c_zs_requireReach htr hx.1.1 hj hs) rfl (by decide) (by decide) (by omega) (by omega) (Nat.le_of_ble_eq_true rfl) (fun _ _ _ hq => q_Z_bad (fun z => by rw [hr0, if_neg z]) hq (Nat.le_refl _)) (fun r h2 N2 hq => ?_)
  obtain ⟨e1, -, ⟨hok, hr, e2⟩ | ⟨-, hr⟩⟩ := hq; rotate_left; exact nomatch hr
  cases hr
  rw [e1, e2]
  clear e1 e2
  show q_Ev l G m_zs_set 8 136 12 72 17 [some (.ref (1)), some (.int (nI (j))), some (.int (nI (p))), some (.int (v)), some (.int (dd))] [] (zs_put (x_h x) (x_R x)) (x_N x) _
  rw [if_pos hok] at hr0
  refine e_aload_n (pc := 17) d_zs_set_17 rfl ?_
  refine e_get (pc := 18) d_zs_set_18 fl_zs_24 zs_g1 rfl ?_
  refine e_iload_n (pc := 21) d_zs_set_21 rfl ?_
  refine e_callS (As := [.ref (4), .int (nI (p))]) (st := []) (cc2 := 11) (ss2 := 66) (pc := 22) d_zs_set_22 rfl cs_zs_109 (c_zs_requireNode htr zs_tP hp) rfl (by decide) (by decide) (by omega) (by omega) (Nat.le_of_ble_eq_true rfl) (fun _ _ _ hq => q_Z_bad (fun z => by rw [hr0, if_neg z]) hq (Nat.le_refl _)) (fun r h2 N2 hq => ?_)
  obtain ⟨e1, -, ⟨hok, hr, e2⟩ | ⟨-, hr⟩⟩ := hq; rotate_left; exact nomatch hr
  cases hr
  rw [e1, e2]
  clear e1 e2
  show q_Ev l G m_zs_set 8 136 11 66 25 [some (.ref (1)), some (.int (nI (j))), some (.int (nI (p))), some (.int (v)), some (.int (dd))] [] (zs_put (x_h x) (x_R x)) (x_N x) _
  rw [if_pos hok] at hr0
  refine e_aload_n (pc := 25) d_zs_set_25 rfl ?_
  refine e_iload_n (pc := 26) d_zs_set_26 rfl ?_
  refine e_iload_n (pc := 27) d_zs_set_27 rfl ?_
  refine e_callV (As := [.int (nI (p)), .int (v)]) (st := []) (cc2 := 11) (ss2 := 66) (pc := 28) d_zs_set_28 rfl cv_zs_148 zs_g1 rfl (c_zs_isOtherVersion htr hp) rfl (by decide) (by decide) (by omega) (by omega) (Nat.le_of_ble_eq_true rfl) (fun _ _ _ hq => nomatch hq.1) (fun r h2 N2 hq => ?_)
  obtain ⟨hr, e1, e2⟩ := hq
  cases hr
  rw [e1, e2]
  clear e1 e2
  show q_Ev l G m_zs_set 8 136 11 66 31 [some (.ref (1)), some (.int (nI (j))), some (.int (nI (p))), some (.int (v)), some (.int (dd))] [.int (bI (z_ow (x_R x) p v))] (zs_put (x_h x) (x_R x)) (x_N x) _
  refine e_ifB_eq (pc := 31) (tgt := 37) d_zs_set_31 (by decide) (fun c => ?_) (fun c => ?_)
  · rw [if_neg (by rw [c]; decide)] at hr0
    refine e_fresh (fun hf _ => ?_)
    have hNn : 41 < x_N x + 1 := Nat.lt_succ_of_le hx.2
    have hfr : x_h x (x_N x + 1) = none := (zs_hi hNn).symm.trans (hf _ (Nat.lt_succ_self _))
    refine e_aload_n (pc := 37) d_zs_set_37 rfl ?_
    refine e_new (pc := 38) (cc' := 10) (ss' := 61) d_zs_set_38 nw_zs_133 (by omega) (by omega) ?_
    rw [zs_uh (by omega)]
    refine e_dup (pc := 41) d_zs_set_41 rfl ?_
    refine e_iconst (pc := 42) d_zs_set_42 (v := (nI (1))) rfl ?_
    refine e_iload_n (pc := 43) d_zs_set_43 rfl ?_
    refine e_iload (pc := 44) d_zs_set_44 rfl ?_
    refine e_iconst (pc := 46) d_zs_set_46 (v := (-1)) rfl ?_
    refine e_iconst (pc := 47) d_zs_set_47 (v := (bI (false))) rfl ?_
    refine e_callI (b := x_N x + 1) (As := [.int (nI (1)), .int (nI (p)), .int (dd), .int (-1), .int (bI (false))]) (st := [.ref (x_N x + 1), .ref (1)]) (cc2 := 10) (ss2 := 61) (pc := 48) d_zs_set_48 ci_zs_135 (c_en_init htr ((zs_hi (by omega)).trans (q_up_s _ _ _))) rfl (by decide) (by decide) (by omega) (by omega) (Nat.le_of_ble_eq_true rfl) (fun _ _ _ hq => nomatch hq.1) (fun r h2 N2 hq => ?_)
    obtain ⟨hr, e1, e2⟩ := hq
    cases hr
    rw [e1, e2]
    clear e1 e2
    show q_Ev l G m_zs_set 8 136 10 61 51 [some (.ref (1)), some (.int (nI (j))), some (.int (nI (p))), some (.int (v)), some (.int (dd))] [.ref (x_N x + 1), .ref (1)] _ (x_N x + 1) _
    rw [zs_uh (by omega), q_up_up]
    show q_Ev l G m_zs_set 8 136 10 61 51 [some (.ref (1)), some (.int (nI (j))), some (.int (nI (p))), some (.int (v)), some (.int (dd))] [.ref (x_N x + 1), .ref (1)] (zs_put (q_up (x_h x) (x_N x + 1) (en_ob (1, p, (dd), (-1), false))) (x_R x)) (x_N x + 1) _
    refine e_callV (As := [.ref (x_N x + 1)]) (st := []) (cc2 := 9) (ss2 := 55) (pc := 51) d_zs_set_51 rfl cv_zs_138 zs_g1 rfl (c_zs_propose htr hx hfr (e := (1, p, (dd), (-1), false)) ⟨Nat.le_of_ble_eq_true rfl, fun _ => hp, fun z => absurd z (by show ¬ 1 = 0; decide), fun z => absurd z (by show ¬ 1 = 2; decide)⟩) rfl (by decide) (by decide) (by omega) (by omega) (Nat.le_of_ble_eq_true rfl) (fun _ _ _ hq => q_Z_pr hr0 hq) (fun r h2 N2 hq => ?_)
    obtain ⟨-, ⟨-, -, hr⟩ | ⟨hful, e1, ⟨hqr, hr, e2⟩ | ⟨-, hr⟩⟩⟩ := hq; exact nomatch hr; rotate_left; exact nomatch hr
    cases hr
    rw [e1, e2]
    clear e1 e2
    show q_Ev l G m_zs_set 8 136 9 55 54 [some (.ref (1)), some (.int (nI (j))), some (.int (nI (p))), some (.int (v)), some (.int (dd))] [] _ (x_N x + 1) _
    obtain ⟨y, hy⟩ : ∃ y, y = x_pr (1, p, (dd), (-1), false) x := ⟨_, rfl⟩
    unfold z_prop at hr0
    rw [if_neg (by rw [hful]; decide), if_pos hqr, ← hy] at hr0
    rw [← hy]
    have eN : x_N x + 1 = x_N y := by rw [hy]; rfl
    rw [eN]
    refine e_aload_n (pc := 54) d_zs_set_54 rfl ?_
    refine e_get (pc := 55) d_zs_set_55 fl_zs_24 zs_g1 rfl ?_
    refine e_get (pc := 58) d_zs_set_58 fl_zs_152 (zs_tP (R := x_R y)).1 rfl ?_
    refine e_iload_n (pc := 61) d_zs_set_61 rfl ?_
    refine e_ialdN (pc := 62) d_zs_set_62 (zs_tP (R := x_R y)).2.2.1 (by omega) (by decide) ?_
    exact e_iret (pc := 63) d_zs_set_63 rfl (by rw [hr0]; exact ⟨rfl, rfl, Nat.le_refl _⟩)
  · refine e_bipush (pc := 34) d_zs_set_34 (v := (-2)) rfl ?_
    exact e_iret (pc := 36) d_zs_set_36 rfl (by rw [hr0, if_pos c]; exact ⟨rfl, rfl, Nat.le_refl _⟩)
theorem q_ofL1 {x : Int32} {n : Nat} (hn : n < 2 ^ 31) (h : nI 1 ≤ x ∧ x ≤ nI n) : ∃ j, 1 ≤ j ∧ j < n + 1 ∧ x = nI j := by
  have h0 : nI 0 ≤ x := Int32.le_iff_toInt_le.mpr (Int.le_trans (by decide) (Int32.le_iff_toInt_le.mp h.1))
  obtain ⟨j, h1, h2⟩ := q_ofL hn ⟨h0, h.2⟩
  subst h2
  exact ⟨j, (nI_leI (by decide) (by omega)).mp h.1, h1, rfl⟩
set_option maxHeartbeats 4000000 in
set_option maxRecDepth 100000 in
theorem c_zs_delete {l : Launch} {G : q_G} (htr : l.stackTraces = false) {x : zX} {s q v : Int32} (hx : xOK x) : q_Met l G m_zs_delete 8 136 16 96 [.ref (1), .int (s), .int (q), .int (v)] (zs_put (x_h x) (x_R x)) (x_N x) (q_Z (z_delete s q v x)) := by
  obtain ⟨r, hr0⟩ : ∃ r, r = z_delete s q v x := ⟨_, rfl⟩
  rw [← hr0]
  refine q_Met.mk htr (by decide +kernel) rfl (List.forall_mem_cons.mpr ⟨rfl, List.forall_mem_cons.mpr ⟨rfl, List.forall_mem_cons.mpr ⟨rfl, List.forall_mem_cons.mpr ⟨rfl, fun _ h => nomatch h⟩⟩⟩⟩) (Nat.le_of_ble_eq_true rfl) ?_
  refine e_iload_n (pc := 0) d_zs_delete_0 rfl ?_
  refine e_callS (As := [.int (s)]) (st := []) (cc2 := 15) (ss2 := 90) (pc := 1) d_zs_delete_1 rfl cs_zs_40 (c_zs_requireSession htr) rfl (by decide) (by decide) (by omega) (by omega) (Nat.le_of_ble_eq_true rfl) (fun _ _ _ hq => q_Z_bad (fun z => by rw [hr0]; unfold z_delete; rw [if_neg (fun u => z u.1)]) hq (Nat.le_refl _)) (fun r h2 N2 hq => ?_)
  obtain ⟨e1, -, ⟨hok, hr, e2⟩ | ⟨-, hr⟩⟩ := hq; rotate_left; exact nomatch hr
  cases hr
  rw [e1, e2]
  clear e1 e2
  show q_Ev l G m_zs_delete 8 136 15 90 4 [some (.ref (1)), some (.int (s)), some (.int (q)), some (.int (v)), none] [] (zs_put (x_h x) (x_R x)) (x_N x) _
  have hok1 := hok
  refine e_iload_n (pc := 4) d_zs_delete_4 rfl ?_
  refine e_iconst (pc := 5) d_zs_delete_5 (v := (nI (1))) rfl ?_
  refine e_sipush (pc := 6) d_zs_delete_6 (v := (nI (258))) rfl ?_
  refine e_callS (As := [.int (q), .int (nI (1)), .int (nI (258))]) (st := []) (cc2 := 14) (ss2 := 84) (pc := 9) d_zs_delete_9 rfl cs_zs_47 (c_zs_requireRange htr) rfl (by decide) (by decide) (by omega) (by omega) (Nat.le_of_ble_eq_true rfl) (fun _ _ _ hq => q_Z_bad (fun z => by rw [hr0]; unfold z_delete; rw [if_neg (fun u => z u.2.1)]) hq (Nat.le_refl _)) (fun r h2 N2 hq => ?_)
  obtain ⟨e1, -, ⟨hok, hr, e2⟩ | ⟨-, hr⟩⟩ := hq; rotate_left; exact nomatch hr
  cases hr
  rw [e1, e2]
  clear e1 e2
  show q_Ev l G m_zs_delete 8 136 14 84 12 [some (.ref (1)), some (.int (s)), some (.int (q)), some (.int (v)), none] [] (zs_put (x_h x) (x_R x)) (x_N x) _
  have hok2 := hok
  refine e_iload_n (pc := 12) d_zs_delete_12 rfl ?_
  refine e_callS (As := [.int (v)]) (st := []) (cc2 := 13) (ss2 := 78) (pc := 13) d_zs_delete_13 rfl cs_zs_145 (c_zs_requireVersion htr) rfl (by decide) (by decide) (by omega) (by omega) (Nat.le_of_ble_eq_true rfl) (fun _ _ _ hq => q_Z_bad (fun z => by rw [hr0]; unfold z_delete; rw [if_neg (fun u => z u.2.2)]) hq (Nat.le_refl _)) (fun r h2 N2 hq => ?_)
  obtain ⟨e1, -, ⟨hok, hr, e2⟩ | ⟨-, hr⟩⟩ := hq; rotate_left; exact nomatch hr
  cases hr
  rw [e1, e2]
  clear e1 e2
  show q_Ev l G m_zs_delete 8 136 13 78 16 [some (.ref (1)), some (.int (s)), some (.int (q)), some (.int (v)), none] [] (zs_put (x_h x) (x_R x)) (x_N x) _
  have hok3 := hok
  obtain ⟨j, hj, ej⟩ := q_ofL (n := 3) (by decide) hok1
  obtain ⟨p, hp1, hp, ep⟩ := q_ofL1 (n := 258) (by decide) hok2
  subst ej ep
  unfold z_delete at hr0
  rw [if_pos ⟨hok1, hok2, hok3⟩, nT_n (by omega), nT_n (by omega)] at hr0
  have hs := (hx.1.2.1 j).1
  refine e_aload_n (pc := 16) d_zs_delete_16 rfl ?_
  refine e_iload_n (pc := 17) d_zs_delete_17 rfl ?_
  refine e_callV (As := [.int (nI (j))]) (st := []) (cc2 := 12) (ss2 := 72) (pc := 18) d_zs_delete_18 rfl cv_zs_72 zs_g1 rfl (c_zs_requireReach htr hx.1.1 hj hs) rfl (by decide) (by decide) (by omega) (by omega) (Nat.le_of_ble_eq_true rfl) (fun _ _ _ hq => q_Z_bad (fun z => by rw [hr0, if_neg z]) hq (Nat.le_refl _)) (fun r h2 N2 hq => ?_)
  obtain ⟨e1, -, ⟨hok, hr, e2⟩ | ⟨-, hr⟩⟩ := hq; rotate_left; exact nomatch hr
  cases hr
  rw [e1, e2]
  clear e1 e2
  show q_Ev l G m_zs_delete 8 136 12 72 21 [some (.ref (1)), some (.int (nI (j))), some (.int (nI (p))), some (.int (v)), none] [] (zs_put (x_h x) (x_R x)) (x_N x) _
  rw [if_pos hok] at hr0
  refine e_aload_n (pc := 21) d_zs_delete_21 rfl ?_
  refine e_get (pc := 22) d_zs_delete_22 fl_zs_24 zs_g1 rfl ?_
  refine e_iload_n (pc := 25) d_zs_delete_25 rfl ?_
  refine e_callS (As := [.ref (4), .int (nI (p))]) (st := []) (cc2 := 11) (ss2 := 66) (pc := 26) d_zs_delete_26 rfl cs_zs_109 (c_zs_requireNode htr zs_tP hp) rfl (by decide) (by decide) (by omega) (by omega) (Nat.le_of_ble_eq_true rfl) (fun _ _ _ hq => q_Z_bad (fun z => by rw [hr0, if_neg z]) hq (Nat.le_refl _)) (fun r h2 N2 hq => ?_)
  obtain ⟨e1, -, ⟨hok, hr, e2⟩ | ⟨-, hr⟩⟩ := hq; rotate_left; exact nomatch hr
  cases hr
  rw [e1, e2]
  clear e1 e2
  show q_Ev l G m_zs_delete 8 136 11 66 29 [some (.ref (1)), some (.int (nI (j))), some (.int (nI (p))), some (.int (v)), none] [] (zs_put (x_h x) (x_R x)) (x_N x) _
  rw [if_pos hok] at hr0
  refine e_aload_n (pc := 29) d_zs_delete_29 rfl ?_
  refine e_iload_n (pc := 30) d_zs_delete_30 rfl ?_
  refine e_iload_n (pc := 31) d_zs_delete_31 rfl ?_
  refine e_callV (As := [.int (nI (p)), .int (v)]) (st := []) (cc2 := 11) (ss2 := 66) (pc := 32) d_zs_delete_32 rfl cv_zs_148 zs_g1 rfl (c_zs_isOtherVersion htr hp) rfl (by decide) (by decide) (by omega) (by omega) (Nat.le_of_ble_eq_true rfl) (fun _ _ _ hq => nomatch hq.1) (fun r h2 N2 hq => ?_)
  obtain ⟨hr, e1, e2⟩ := hq
  cases hr
  rw [e1, e2]
  clear e1 e2
  show q_Ev l G m_zs_delete 8 136 11 66 35 [some (.ref (1)), some (.int (nI (j))), some (.int (nI (p))), some (.int (v)), none] [.int (bI (z_ow (x_R x) p v))] (zs_put (x_h x) (x_R x)) (x_N x) _
  refine e_ifB_eq (pc := 35) (tgt := 41) d_zs_delete_35 (by decide) (fun c => ?_) (fun c => ?_)
  · rw [if_neg (by rw [c]; decide)] at hr0
    refine e_aload_n (pc := 41) d_zs_delete_41 rfl ?_
    refine e_get (pc := 42) d_zs_delete_42 fl_zs_24 zs_g1 rfl ?_
    refine e_iload_n (pc := 45) d_zs_delete_45 rfl ?_
    refine e_callV (As := [.int (nI (p))]) (st := []) (cc2 := 11) (ss2 := 66) (pc := 46) d_zs_delete_46 rfl cv_zs_155 (zs_tP (R := x_R x)).1 rfl (c_tr_childrenOf htr (zs_tP (R := x_R x)) (p := p) (by omega)) rfl (by decide) (by decide) (by omega) (by omega) (Nat.le_of_ble_eq_true rfl) (fun _ _ _ hq => nomatch hq.1) (fun r h2 N2 hq => ?_)
    obtain ⟨hr, e1, e2⟩ := hq
    cases hr
    rw [e1, e2]
    clear e1 e2
    show q_Ev l G m_zs_delete 8 136 11 66 49 [some (.ref (1)), some (.int (nI (j))), some (.int (nI (p))), some (.int (v)), none] [.int (if p < 43 then kidB (fun u => decide ((z_P (x_R x)).2.1 u ≠ -1)) p 6 else 0)] (zs_put (x_h x) (x_R x)) (x_N x) _
    refine e_if_eq (pc := 49) (tgt := 60) d_zs_delete_49 (by decide) (fun c2 => ?_) (fun c2 => ?_)
    · rw [if_pos c2] at hr0
      refine e_fresh (fun hf _ => ?_)
      have hNn : 41 < x_N x + 1 := Nat.lt_succ_of_le hx.2
      have hfr : x_h x (x_N x + 1) = none := (zs_hi hNn).symm.trans (hf _ (Nat.lt_succ_self _))
      refine e_aload_n (pc := 60) d_zs_delete_60 rfl ?_
      refine e_get (pc := 61) d_zs_delete_61 fl_zs_24 zs_g1 rfl ?_
      refine e_get (pc := 64) d_zs_delete_64 fl_zs_152 (zs_tP (R := x_R x)).1 rfl ?_
      refine e_iload_n (pc := 67) d_zs_delete_67 rfl ?_
      refine e_ialdN (pc := 68) d_zs_delete_68 (zs_tP (R := x_R x)).2.2.1 (by omega) (by decide) ?_
      refine e_istore (pc := 69) d_zs_delete_69 (by decide) ?_
      refine e_aload_n (pc := 71) d_zs_delete_71 rfl ?_
      refine e_new (pc := 72) (cc' := 10) (ss' := 61) d_zs_delete_72 nw_zs_133 (by omega) (by omega) ?_
      rw [zs_uh (by omega)]
      refine e_dup (pc := 75) d_zs_delete_75 rfl ?_
      refine e_iconst (pc := 76) d_zs_delete_76 (v := (nI (2))) rfl ?_
      refine e_iload_n (pc := 77) d_zs_delete_77 rfl ?_
      refine e_iconst (pc := 78) d_zs_delete_78 (v := (nI (0))) rfl ?_
      refine e_iconst (pc := 79) d_zs_delete_79 (v := (-1)) rfl ?_
      refine e_iconst (pc := 80) d_zs_delete_80 (v := (bI (false))) rfl ?_
      refine e_callI (b := x_N x + 1) (As := [.int (nI (2)), .int (nI (p)), .int (nI (0)), .int (-1), .int (bI (false))]) (st := [.ref (x_N x + 1), .ref (1)]) (cc2 := 10) (ss2 := 61) (pc := 81) d_zs_delete_81 ci_zs_135 (c_en_init htr ((zs_hi (by omega)).trans (q_up_s _ _ _))) rfl (by decide) (by decide) (by omega) (by omega) (Nat.le_of_ble_eq_true rfl) (fun _ _ _ hq => nomatch hq.1) (fun r h2 N2 hq => ?_)
      obtain ⟨hr, e1, e2⟩ := hq
      cases hr
      rw [e1, e2]
      clear e1 e2
      show q_Ev l G m_zs_delete 8 136 10 61 84 [some (.ref (1)), some (.int (nI (j))), some (.int (nI (p))), some (.int (v)), some (.int (((z_P (x_R x)).2.1) (p)))] [.ref (x_N x + 1), .ref (1)] _ (x_N x + 1) _
      rw [zs_uh (by omega), q_up_up]
      show q_Ev l G m_zs_delete 8 136 10 61 84 [some (.ref (1)), some (.int (nI (j))), some (.int (nI (p))), some (.int (v)), some (.int (((z_P (x_R x)).2.1) (p)))] [.ref (x_N x + 1), .ref (1)] (zs_put (q_up (x_h x) (x_N x + 1) (en_ob (2, p, (nI (0)), (-1), false))) (x_R x)) (x_N x + 1) _
      refine e_callV (As := [.ref (x_N x + 1)]) (st := []) (cc2 := 9) (ss2 := 55) (pc := 84) d_zs_delete_84 rfl cv_zs_138 zs_g1 rfl (c_zs_propose htr hx hfr (e := (2, p, (nI (0)), (-1), false)) ⟨Nat.le_of_ble_eq_true rfl, fun _ => hp, fun z => absurd z (by show ¬ 2 = 0; decide), fun z => hp1⟩) rfl (by decide) (by decide) (by omega) (by omega) (Nat.le_of_ble_eq_true rfl) (fun _ _ _ hq => q_Z_pr hr0 hq) (fun r h2 N2 hq => ?_)
      obtain ⟨-, ⟨-, -, hr⟩ | ⟨hful, e1, ⟨hqr, hr, e2⟩ | ⟨-, hr⟩⟩⟩ := hq; exact nomatch hr; rotate_left; exact nomatch hr
      cases hr
      rw [e1, e2]
      clear e1 e2
      show q_Ev l G m_zs_delete 8 136 9 55 87 [some (.ref (1)), some (.int (nI (j))), some (.int (nI (p))), some (.int (v)), some (.int (((z_P (x_R x)).2.1) (p)))] [] _ (x_N x + 1) _
      obtain ⟨y, hy⟩ : ∃ y, y = x_pr (2, p, (nI (0)), (-1), false) x := ⟨_, rfl⟩
      unfold z_prop at hr0
      rw [if_neg (by rw [hful]; decide), if_pos hqr, ← hy] at hr0
      rw [← hy]
      have eN : x_N x + 1 = x_N y := by rw [hy]; rfl
      rw [eN]
      refine e_iload (pc := 87) d_zs_delete_87 rfl ?_
      exact e_iret (pc := 89) d_zs_delete_89 rfl (by rw [hr0]; exact ⟨rfl, rfl, Nat.le_refl _⟩)
    · exact e_throw (pc := 52) rfl xx_zs_120 d_zs_delete_52 d_zs_delete_55 d_zs_delete_56 d_zs_delete_59 (by decide) (Nat.le_of_ble_eq_true rfl) (by omega) (by omega) (fun N2 hN => by rw [hr0, if_neg c2]; exact ⟨rfl, rfl, hN⟩)
  · refine e_bipush (pc := 38) d_zs_delete_38 (v := (-2)) rfl ?_
    exact e_iret (pc := 40) d_zs_delete_40 rfl (by rw [hr0, if_pos c]; exact ⟨rfl, rfl, Nat.le_refl _⟩)
