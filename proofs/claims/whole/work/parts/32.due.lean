/-! THE CLASS: closeDueSessions -/
/-- the heap's entries, what they are, the number of cells, the state -/
abbrev zX : Type := q_H × (Nat → zE) × Nat × zR
abbrev x_h (x : zX) := x.1
abbrev x_E (x : zX) := x.2.1
abbrev x_N (x : zX) := x.2.2.1
abbrev x_R (x : zX) := x.2.2.2
/-- session i is DUE no more -/
def z_nd (i : Nat) (R : zR) : zR := z_sS R i (s_X (z_S R i), s_op (z_S R i), false, s_sv (z_S R i), s_to (z_S R i), s_he (z_S R i))
/-- how many nodes of PLANNED s owns -/
def z_cO (R : zR) (s : Int32) : Nat := cntB (fun q => decide (1 ≤ q ∧ (z_P R).2.2.1 q = s)) 259
/-- a new ENTRY is PROPOSED: put at the end of the LEADER's LOG, planned, SPREAD -/
def x_pr (e : zE) (x : zX) : zX := (q_up (x_h x) (x_N x + 1) (en_ob e), va_up (x_E x) (x_N x + 1) e, x_N x + 1, spR (va_up (x_E x) (x_N x + 1) e) (apP (x_N x + 1) e (x_R x)))
def x_sR (x : zX) (R : zR) : zX := (x_h x, x_E x, x_N x, R)
def cl1 (i : Nat) (x : zX) : zX := if s_du (z_S (x_R x) i) = true then if 0 < z_cO (x_R x) (nI i) then x_sR (x_pr (3, 0, nI 0, nI i, false) x) (z_nd i (x_R (x_pr (3, 0, nI 0, nI i, false) x))) else x_sR x (z_nd i (x_R x)) else x
def clG : Nat → Nat → zX → zX
  | 0, _, x => x
  | g + 1, i, x => clG g (i + 1) (cl1 i x)
def clC (i : Nat) (x : zX) : Prop := s_du (z_S (x_R x) i) = true → 0 < z_cO (x_R x) (nI i) → ∀ k, z_ld (x_R x) = some k → v_ln (z_V (x_R x) k) < 64
def clOK : Nat → Nat → zX → Prop
  | 0, _, _ => True
  | g + 1, i, x => clC i x ∧ clOK g (i + 1) (cl1 i x)
/-- what closeDueSessions does -/
def x_cd (x : zX) : zX := if z_qr (x_R x) = true then clG 4 0 x else x
def xOK (x : zX) : Prop := zOK (x_h x) (x_E x) (x_R x) ∧ 41 ≤ x_N x
theorem zSw_nd {R : zR} (h : zSw R) (i : Nat) : zSw (z_nd i R) := by
  intro k
  by_cases c : k = i
  · subst c
    simp only [z_nd, z_S, z_sS, va_up, if_true]
    exact h k
  · simp only [z_nd, z_S, z_sS, va_up, if_neg c]
    exact h k
theorem zOK_nd {h : q_H} {E : Nat → zE} {R : zR} (hO : zOK h E R) (i : Nat) : zOK h E (z_nd i R) := ⟨hO.1, zSw_nd hO.2.1 i, hO.2.2⟩
theorem eOK_cl (i : Nat) : eOK (3, 0, nI 0, nI i, false) := ⟨Nat.le_refl 3, fun z => absurd z (by show ¬ 3 ≤ 2; decide), fun z => absurd z (by show ¬ 3 = 0; decide), fun z => absurd z (by show ¬ 3 = 2; decide)⟩
theorem en_new {h : q_H} {a : Nat} (e : zE) : en_Is (q_up h a (en_ob e)) a e := q_up_s _ _ _
theorem xOK_pr {x : zX} (hx : xOK x) (hf : x_h x (x_N x + 1) = none) {e : zE} (he : eOK e) (hl : ∀ k, z_ld (x_R x) = some k → v_ln (z_V (x_R x) k) < 64) : xOK (x_pr e x) := by
  have hO := zOK_new hx.1 hf e
  have hN : 41 < x_N x + 1 := Nat.lt_succ_of_le hx.2
  have he2 : va_up (x_E x) (x_N x + 1) e (x_N x + 1) = e := by simp [va_up]
  have := zOK_apP hO (a := x_N x + 1) hN (by rw [he2]; exact en_new e) (by rw [he2]; exact he) hl
  rw [he2] at this
  exact ⟨zOK_sp this, Nat.le_of_lt hN⟩
set_option maxHeartbeats 4000000 in
set_option maxRecDepth 100000 in
theorem lp_zs_closeDue {l : Launch} {G : q_G} (htr : l.stackTraces = false) : ∀ (g i : Nat) (x : zX), i + g = 4 → xOK x → clOK g i x → q_Ev l G m_zs_closeDueSessions 5 115 g (5 * g) 10 [some (.ref (1)), some (.int (nI (i)))] [] (zs_put (x_h x) (x_R x)) (x_N x) (q_To none (zs_put (x_h (clG g i x)) (x_R (clG g i x))) (x_N (clG g i x))) := by
  intro g
  induction g with
  | zero =>
    intro i x hig hx hc
    have hi : i = 4 := by omega
    subst hi
    refine e_iload_n (pc := 10) d_zs_closeDueSessions_10 rfl ?_
    refine e_iconst (pc := 11) d_zs_closeDueSessions_11 (v := (nI (4))) rfl ?_
    refine e_icmp_geN (pc := 12) (tgt := 74) d_zs_closeDueSessions_12 (by decide) (by decide) (by decide) (fun _ => ?_) (fun c => absurd c (by decide))
    exact e_vret (pc := 74) d_zs_closeDueSessions_74 rfl (⟨rfl, rfl, rfl⟩)
  | succ g ih =>
    intro i x hig hx hc
    have hi : i < 4 := by omega
    refine e_iload_n (pc := 10) d_zs_closeDueSessions_10 rfl ?_
    refine e_iconst (pc := 11) d_zs_closeDueSessions_11 (v := (nI (4))) rfl ?_
    refine e_icmp_geN (pc := 12) (tgt := 74) d_zs_closeDueSessions_12 (by decide) (by omega) (by decide) (fun c => by omega) (fun _ => ?_)
    refine e_aload_n (pc := 15) d_zs_closeDueSessions_15 rfl ?_
    refine e_get (pc := 16) d_zs_closeDueSessions_16 fl_zs_17 zs_g1 rfl ?_
    refine e_iload_n (pc := 19) d_zs_closeDueSessions_19 rfl ?_
    refine e_aaldN (pc := 20) d_zs_closeDueSessions_20 zs_g3 (fun _ => rfl) (by omega) (by decide) rfl ?_
    refine e_get (pc := 21) d_zs_closeDueSessions_21 fl_zs_55 (zs_s hi).1 rfl ?_
    refine e_ifB_eq (pc := 24) (tgt := 68) d_zs_closeDueSessions_24 (by decide) (fun c => ?_) (fun c => ?_)
    · refine e_iincN (pc := 68) d_zs_closeDueSessions_68 (a := i) (b := 1) rfl rfl (by decide) ?_
      refine e_goto (pc := 71) (tgt := 10) d_zs_closeDueSessions_71 (by decide) ?_
      have e1 : cl1 i x = x := by unfold cl1; rw [if_neg (by rw [c]; decide)]
      have hc2 := hc.2
      rw [e1] at hc2
      have := ih (i + 1) x (by omega) hx hc2
      have e2 : clG (g + 1) i x = clG g (i + 1) x := by rw [clG, e1]
      rw [e2]
      exact q_Ev.room this (Nat.le_refl _) (Nat.le_refl _) (by omega) (by omega)
    · refine e_aload_n (pc := 27) d_zs_closeDueSessions_27 rfl ?_
      refine e_get (pc := 28) d_zs_closeDueSessions_28 fl_zs_24 zs_g1 rfl ?_
      refine e_iload_n (pc := 31) d_zs_closeDueSessions_31 rfl ?_
      refine e_callV (As := [.int (nI (i))]) (st := []) (cc2 := g + 1) (ss2 := 5 * (g + 1)) (pc := 32) d_zs_closeDueSessions_32 rfl cv_zs_78 zs_tP.1 rfl (c_tr_countOwned htr (zs_tP (R := x_R x)) (s := nI i)) rfl (by decide) (by decide) (by omega) (by omega) (Nat.le_of_ble_eq_true rfl) (fun _ _ _ hq => nomatch hq.1) (fun r h2 N2 hq => ?_)
      obtain ⟨hr, e1, e2⟩ := hq
      cases hr
      rw [e1, e2]
      clear e1 e2
      show q_Ev l G m_zs_closeDueSessions 5 115 (g + 1) (5 * (g + 1)) 35 [some (.ref (1)), some (.int (nI (i)))] [.int (nI (z_cO (x_R x) (nI i)))] (zs_put (x_h x) (x_R x)) (x_N x) _
      have hle : z_cO (x_R x) (nI i) ≤ 259 := cntB_le _ _
      refine e_if_leN (pc := 35) (tgt := 58) d_zs_closeDueSessions_35 (by decide) (by omega) (fun c2 => ?_) (fun c2 => ?_)
      · refine e_aload_n (pc := 58) d_zs_closeDueSessions_58 rfl ?_
        refine e_get (pc := 59) d_zs_closeDueSessions_59 fl_zs_17 zs_g1 rfl ?_
        refine e_iload_n (pc := 62) d_zs_closeDueSessions_62 rfl ?_
        refine e_aaldN (pc := 63) d_zs_closeDueSessions_63 zs_g3 (fun _ => rfl) (by omega) (by decide) rfl ?_
        refine e_iconst (pc := 64) d_zs_closeDueSessions_64 (v := (bI (false))) rfl ?_
        refine q_Ev.hp (ss_put_id (zs_s hi)) ?_
        refine e_putE (pc := 65) d_zs_closeDueSessions_65 (fs2 := [.ref (30 + 3 * i + 1), .ref (30 + 3 * i + 2), .int (nI ((s_X (z_S (x_R x) i)).2.2)), .int (bI (s_op (z_S (x_R x) i))), .int (bI (false)), .int (nI (s_sv (z_S (x_R x) i))), .int (s_to (z_S (x_R x) i)), .int (s_he (z_S (x_R x) i))]) fl_zs_55 ss_g0 (Nat.le_of_ble_eq_true rfl) (fun _ => bI_nar _) (fun _ => by first | rfl | (cases (false : Bool) <;> rfl)) rfl ?_
        rw [ss_u0]
        rw [zs_uS hi]
        refine e_iincN (pc := 68) d_zs_closeDueSessions_68 (a := i) (b := 1) rfl rfl (by decide) ?_
        refine e_goto (pc := 71) (tgt := 10) d_zs_closeDueSessions_71 (by decide) ?_
        have e1 : cl1 i x = x_sR x (z_nd i (x_R x)) := by unfold cl1; rw [if_pos c, if_neg (by omega)]
        have hc2 := hc.2
        rw [e1] at hc2
        have := ih (i + 1) (x_sR x (z_nd i (x_R x))) (by omega) ⟨zOK_nd hx.1 i, hx.2⟩ hc2
        have e2 : clG (g + 1) i x = clG g (i + 1) (x_sR x (z_nd i (x_R x))) := by rw [clG, e1]
        rw [e2]
        exact q_Ev.room this (Nat.le_refl _) (Nat.le_refl _) (by omega) (by omega)
      · refine e_fresh (fun hf _ => ?_)
        have hNn : 41 < x_N x + 1 := Nat.lt_succ_of_le hx.2
        have hfr : x_h x (x_N x + 1) = none := (zs_hi hNn).symm.trans (hf _ (Nat.lt_succ_self _))
        have h64 := hc.1 c (by omega)
        refine e_aload_n (pc := 38) d_zs_closeDueSessions_38 rfl ?_
        refine e_new (pc := 39) (cc' := g) (ss' := 5 * g) d_zs_closeDueSessions_39 nw_zs_133 (by omega) (by omega) ?_
        rw [zs_uh (by omega)]
        refine e_dup (pc := 42) d_zs_closeDueSessions_42 rfl ?_
        refine e_iconst (pc := 43) d_zs_closeDueSessions_43 (v := (nI (3))) rfl ?_
        refine e_iconst (pc := 44) d_zs_closeDueSessions_44 (v := (nI (0))) rfl ?_
        refine e_iconst (pc := 45) d_zs_closeDueSessions_45 (v := (nI (0))) rfl ?_
        refine e_iload_n (pc := 46) d_zs_closeDueSessions_46 rfl ?_
        refine e_iconst (pc := 47) d_zs_closeDueSessions_47 (v := (bI (false))) rfl ?_
        refine e_callI (b := x_N x + 1) (As := [.int (nI (3)), .int (nI (0)), .int (nI (0)), .int (nI (i)), .int (bI (false))]) (st := [.ref (x_N x + 1), .ref (1)]) (cc2 := g) (ss2 := 5 * g) (pc := 48) d_zs_closeDueSessions_48 ci_zs_135 (c_en_init htr ((zs_hi (by omega)).trans (q_up_s _ _ _))) rfl (by decide) (by decide) (by omega) (by omega) (Nat.le_of_ble_eq_true rfl) (fun _ _ _ hq => nomatch hq.1) (fun r h2 N2 hq => ?_)
        obtain ⟨hr, e1, e2⟩ := hq
        cases hr
        rw [e1, e2]
        clear e1 e2
        show q_Ev l G m_zs_closeDueSessions 5 115 g (5 * g) 51 [some (.ref (1)), some (.int (nI (i)))] [.ref (x_N x + 1), .ref (1)] _ (x_N x + 1) _
        rw [zs_uh (by omega), q_up_up]
        show q_Ev l G m_zs_closeDueSessions 5 115 g (5 * g) 51 [some (.ref (1)), some (.int (nI (i)))] [.ref (x_N x + 1), .ref (1)] (zs_put (q_up (x_h x) (x_N x + 1) (en_ob (3, 0, (nI (0)), (nI (i)), false))) (x_R x)) (x_N x + 1) _
        have hOn := zOK_new hx.1 hfr (3, 0, nI 0, nI i, false)
        have hE2 : va_up (x_E x) (x_N x + 1) (3, 0, nI 0, nI i, false) (x_N x + 1) = (3, 0, nI 0, nI i, false) := by simp [va_up]
        refine e_callV (As := [.ref (x_N x + 1)]) (st := []) (cc2 := g) (ss2 := 5 * g) (pc := 51) d_zs_closeDueSessions_51 rfl cv_zs_220 zs_g1 rfl (c_zs_appendAndPlan htr hx.1.1 hNn (en_new _) (eOK_cl i) h64) rfl (by decide) (by decide) (by omega) (by omega) (Nat.le_of_ble_eq_true rfl) (fun _ _ _ hq => nomatch hq.1) (fun r h2 N2 hq => ?_)
        obtain ⟨hr, e1, e2⟩ := hq
        cases hr
        rw [e1, e2]
        clear e1 e2
        show q_Ev l G m_zs_closeDueSessions 5 115 g (5 * g) 54 [some (.ref (1)), some (.int (nI (i)))] [] _ (x_N x + 1) _
        have hxp := xOK_pr hx hfr (eOK_cl i) h64
        have hO1 : zOK (q_up (x_h x) (x_N x + 1) (en_ob (3, 0, nI 0, nI i, false))) (va_up (x_E x) (x_N x + 1) (3, 0, nI 0, nI i, false)) (apP (x_N x + 1) (3, 0, nI 0, nI i, false) (x_R x)) := by
          have := zOK_apP hOn (a := x_N x + 1) hNn (by rw [hE2]; exact en_new _) (by rw [hE2]; exact eOK_cl i) h64
          rw [hE2] at this
          exact this
        refine e_aload_n (pc := 54) d_zs_closeDueSessions_54 rfl ?_
        refine e_callV (As := []) (st := []) (cc2 := g) (ss2 := 5 * g) (pc := 55) d_zs_closeDueSessions_55 rfl cv_zs_182 zs_g1 rfl (c_zs_spread htr hO1) rfl (by decide) (by decide) (by omega) (by omega) (Nat.le_of_ble_eq_true rfl) (fun _ _ _ hq => nomatch hq.1) (fun r h2 N2 hq => ?_)
        obtain ⟨hr, e1, e2⟩ := hq
        cases hr
        rw [e1, e2]
        clear e1 e2
        show q_Ev l G m_zs_closeDueSessions 5 115 g (5 * g) 58 [some (.ref (1)), some (.int (nI (i)))] [] _ (x_N x + 1) _
        obtain ⟨y, hy⟩ : ∃ y, y = x_pr (3, 0, nI 0, nI i, false) x := ⟨_, rfl⟩
        rw [← hy] at hxp
        refine q_Ev.hp (h1 := zs_put (x_h y) (x_R y)) (by rw [hy]; rfl) ?_
        have eN : x_N x + 1 = x_N y := by rw [hy]; rfl
        rw [eN]
        refine e_aload_n (pc := 58) d_zs_closeDueSessions_58 rfl ?_
        refine e_get (pc := 59) d_zs_closeDueSessions_59 fl_zs_17 zs_g1 rfl ?_
        refine e_iload_n (pc := 62) d_zs_closeDueSessions_62 rfl ?_
        refine e_aaldN (pc := 63) d_zs_closeDueSessions_63 zs_g3 (fun _ => rfl) (by omega) (by decide) rfl ?_
        refine e_iconst (pc := 64) d_zs_closeDueSessions_64 (v := (bI (false))) rfl ?_
        refine q_Ev.hp (ss_put_id (zs_s hi)) ?_
        refine e_putE (pc := 65) d_zs_closeDueSessions_65 (fs2 := [.ref (30 + 3 * i + 1), .ref (30 + 3 * i + 2), .int (nI ((s_X (z_S (x_R y) i)).2.2)), .int (bI (s_op (z_S (x_R y) i))), .int (bI (false)), .int (nI (s_sv (z_S (x_R y) i))), .int (s_to (z_S (x_R y) i)), .int (s_he (z_S (x_R y) i))]) fl_zs_55 ss_g0 (Nat.le_of_ble_eq_true rfl) (fun _ => bI_nar _) (fun _ => by first | rfl | (cases (false : Bool) <;> rfl)) rfl ?_
        rw [ss_u0]
        rw [zs_uS hi]
        refine e_iincN (pc := 68) d_zs_closeDueSessions_68 (a := i) (b := 1) rfl rfl (by decide) ?_
        refine e_goto (pc := 71) (tgt := 10) d_zs_closeDueSessions_71 (by decide) ?_
        have e1 : cl1 i x = x_sR y (z_nd i (x_R y)) := by unfold cl1; rw [if_pos c, if_pos (by omega), hy]
        have hc2 := hc.2
        rw [e1] at hc2
        have := ih (i + 1) (x_sR y (z_nd i (x_R y))) (by omega) ⟨zOK_nd hxp.1 i, hxp.2⟩ hc2
        have e2 : clG (g + 1) i x = clG g (i + 1) (x_sR y (z_nd i (x_R y))) := by rw [clG, e1]
        rw [e2]
        exact this
set_option maxHeartbeats 4000000 in
set_option maxRecDepth 100000 in
theorem c_zs_closeDue {l : Launch} {G : q_G} (htr : l.stackTraces = false) {x : zX} (hx : xOK x) (hc : clOK 4 0 x) : q_Met l G m_zs_closeDueSessions 5 115 4 20 [.ref 1] (zs_put (x_h x) (x_R x)) (x_N x) (q_To none (zs_put (x_h (x_cd x)) (x_R (x_cd x))) (x_N (x_cd x))) := by
  refine q_Met.mk htr (by decide +kernel) rfl (List.forall_mem_cons.mpr ⟨rfl, fun _ h => nomatch h⟩) (Nat.le_of_ble_eq_true rfl) ?_
  refine e_aload_n (pc := 0) d_zs_closeDueSessions_0 rfl ?_
  refine e_callV (As := []) (st := []) (cc2 := 4) (ss2 := 20) (pc := 1) d_zs_closeDueSessions_1 rfl cv_zs_62 zs_g1 rfl (c_zs_hasQuorum htr hx.1.1) rfl (by decide) (by decide) (by omega) (by omega) (Nat.le_of_ble_eq_true rfl) (fun _ _ _ hq => nomatch hq.1) (fun r h2 N2 hq => ?_)
  obtain ⟨hr, e1, e2⟩ := hq
  cases hr
  rw [e1, e2]
  clear e1 e2
  show q_Ev l G m_zs_closeDueSessions 5 115 4 20 4 [some (.ref (1)), none] [.int (bI (z_qr (x_R x)))] (zs_put (x_h x) (x_R x)) (x_N x) _
  refine e_ifB_ne (pc := 4) (tgt := 8) d_zs_closeDueSessions_4 (by decide) (fun c => ?_) (fun c => ?_)
  · refine e_iconst (pc := 8) d_zs_closeDueSessions_8 (v := (nI (0))) rfl ?_
    refine e_istore_n (pc := 9) d_zs_closeDueSessions_9 (by decide) ?_
    have e1 : x_cd x = clG 4 0 x := by unfold x_cd; rw [if_pos c]
    rw [e1]
    exact lp_zs_closeDue htr 4 0 x rfl hx hc
  · have e1 : x_cd x = x := by unfold x_cd; rw [if_neg (by rw [c]; decide)]
    rw [e1]
    exact e_vret (pc := 7) d_zs_closeDueSessions_7 rfl (⟨rfl, rfl, rfl⟩)
