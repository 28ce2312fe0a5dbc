/-! THE CLASS: spread, appendAndPlan, planAnew -/
theorem cpL_self (f : Nat → Option Nat) (k : Nat) : cpL f f k = f := by funext i; simp [cpL]
/-- server i's LOG becomes that of k -/
def flR (k i : Nat) (R : zR) : zR := z_sV R i (cpL (v_lf (z_V R k)) (v_lf (z_V R i)) (v_ln (z_V R k)), v_ln (z_V R k), v_ap (z_V R i), z_ep R, v_up (z_V R i), v_al (z_V R i))
def sp1 (E : Nat → zE) (b : Bool) (k i : Nat) (R : zR) : zR := if z_lk R i = true then if b = true then apR E i (flR k i R) else flR k i R else R
def spK (E : Nat → zE) (b : Bool) (k : Nat) (R : zR) : Nat → zR
  | 0 => R
  | i + 1 => sp1 E b k i (spK E b k R i)
/-- SPREAD -/
def spR (E : Nat → zE) (R : zR) : zR := match z_ld R with
  | none => R
  | some k => spK E (z_qr R) k R 3
/-- what holds of the class's state in every heap -/
def zOK (h : q_H) (E : Nat → zE) (R : zR) : Prop := z_ok R ∧ zSw R ∧ z_ep R < 100000 ∧ ∀ i, i < 3 → zEn h E (z_V R i) ∧ v_ap (z_V R i) ≤ 64 ∧ v_ag (z_V R i) < 100000
theorem zOK_fl {h : q_H} {E : Nat → zE} {R : zR} (hO : zOK h E R) {k i : Nat} (hk : k < 3) : zOK h E (flR k i R) := by
  refine ⟨hO.1, hO.2.1, hO.2.2.1, fun j hj => ?_⟩
  by_cases c : j = i
  · subst c
    simp only [flR, z_V, z_sV, va_up, if_true]
    refine ⟨⟨(hO.2.2.2 k hk).1.1, fun n hn => ?_⟩, (hO.2.2.2 j hj).2.1, hO.2.2.1⟩
    obtain ⟨a, h1, h2⟩ := (hO.2.2.2 k hk).1.2 n hn
    exact ⟨a, by simp only [v_lf, cpL]; rw [if_pos hn]; exact h1, h2⟩
  · simp only [flR, z_V, z_sV, va_up, if_neg c]
    exact hO.2.2.2 j hj
theorem zOK_ap {h : q_H} {E : Nat → zE} {R : zR} (hO : zOK h E R) {i : Nat} (hi : i < 3) : zOK h E (apR E i R) := by
  have h0 := apF_0 E i R (v_ln (z_V R i) - v_ap (z_V R i))
  refine ⟨fun k hk => hO.1 k (h0.1.symm.trans hk), apF_w hO.2.1 _, Nat.lt_of_le_of_lt (Nat.le_of_eq h0.2.1) hO.2.2.1, fun j hj => ?_⟩
  have hV := apF_V E i R (v_ln (z_V R i) - v_ap (z_V R i))
  by_cases c : j = i
  · subst c
    simp only [apR, z_V, z_sV, va_up, if_true]
    exact ⟨(hO.2.2.2 j hj).1, (hO.2.2.2 j hj).1.1, (hO.2.2.2 j hj).2.2⟩
  · have e : z_V (apR E i R) j = z_V R j := by
      simp only [apR, z_V, z_sV, va_up, if_neg c]
      exact congrFun hV j
    rw [e]
    exact hO.2.2.2 j hj
theorem zOK_sp1 {h : q_H} {E : Nat → zE} {R : zR} {b : Bool} (hO : zOK h E R) {k i : Nat} (hk : k < 3) (hi : i < 3) : zOK h E (sp1 E b k i R) := by
  unfold sp1
  split
  · split
    · exact zOK_ap (zOK_fl hO hk) hi
    · exact zOK_fl hO hk
  · exact hO
theorem ld_sp1 {E : Nat → zE} {R : zR} {b : Bool} {k i : Nat} : z_ld (sp1 E b k i R) = z_ld R := by
  unfold sp1
  split
  · split
    · exact (apF_0 E i (flR k i R) _).1
    · rfl
  · rfl
theorem zOK_spK {h : q_H} {E : Nat → zE} {R : zR} {b : Bool} (hO : zOK h E R) {k : Nat} (hk : k < 3) : ∀ i, i ≤ 3 → zOK h E (spK E b k R i) := by
  intro i
  induction i with
  | zero => intro _; exact hO
  | succ i ih => intro hi; exact zOK_sp1 (ih (by omega)) hk (by omega)
theorem ld_spK {E : Nat → zE} {R : zR} {b : Bool} {k : Nat} : ∀ i, z_ld (spK E b k R i) = z_ld R := by
  intro i
  induction i with
  | zero => rfl
  | succ i ih => exact ld_sp1.trans ih
theorem zOK_sp {h : q_H} {E : Nat → zE} {R : zR} (hO : zOK h E R) : zOK h E (spR E R) := by
  unfold spR
  split
  · exact hO
  · next k hk => exact zOK_spK hO (hO.1 k hk) 3 (Nat.le_refl _)
theorem zEn_ob {h : q_H} {E : Nat → zE} {v : zV} {R : zR} (hE : zEn h E v) : ∀ i, i < v_ln v → ∃ (a : Nat) (vs : List Value), v_lf v i = some a ∧ zs_put h R a = some (.inr (0, vs)) ∧ 41 < a := fun i hi => by
  obtain ⟨a, h1, h2, h3, -⟩ := hE.2 i hi
  exact ⟨a, _, h1, (zs_hi h2).trans h3, h2⟩
set_option maxHeartbeats 4000000 in
set_option maxRecDepth 100000 in
theorem lp_zs_spread {l : Launch} {G : q_G} (htr : l.stackTraces = false) {h : q_H} {N : Nat} {R : zR} {E : Nat → zE} {b : Bool} {k : Nat} (hO : zOK h E R) (hld : z_ld R = some k) : ∀ (g i : Nat), 3 < i + g → i ≤ 3 → q_Ev l G m_zs_spread 4 93 0 0 16 [some (.ref (1)), some (.int (bI (b))), some (.int (nI (i)))] [] (zs_put h (spK E b k R i)) N (q_To none (zs_put h (spK E b k R 3)) N) := by
  intro g
  induction g with
  | zero => intro i hg hk; omega
  | succ g ih =>
    intro i hg hi9
    have hk := hO.1 k hld
    have hOi : zOK h E (spK E b k R i) := zOK_spK hO hk i hi9
    have hli : z_ld (spK E b k R i) = some k := (ld_spK i).trans hld
    refine e_iload_n (pc := 16) d_zs_spread_16 rfl ?_
    refine e_iconst (pc := 17) d_zs_spread_17 (v := (nI (3))) rfl ?_
    refine e_icmp_geN (pc := 18) (tgt := 66) d_zs_spread_18 (by decide) (by omega) (by omega) (fun c => ?_) (fun c => ?_)
    · have hkn : i = 3 := by omega
      subst hkn
      exact e_vret (pc := 66) d_zs_spread_66 rfl (⟨rfl, rfl, rfl⟩)
    · refine e_aload_n (pc := 21) d_zs_spread_21 rfl ?_
      refine e_iload_n (pc := 22) d_zs_spread_22 rfl ?_
      refine e_callV (As := [.int (nI (i))]) (st := []) (cc2 := 0) (ss2 := 0) (pc := 23) d_zs_spread_23 rfl cv_zs_58 zs_g1 rfl (c_zs_isLinked htr hOi.1 c) rfl (by decide) (by decide) (by omega) (by omega) (Nat.le_of_ble_eq_true rfl) (fun _ _ _ hq => nomatch hq.1) (fun r h2 N2 hq => ?_)
      obtain ⟨hr, e1, e2⟩ := hq
      cases hr
      rw [e1, e2]
      clear e1 e2
      show q_Ev l G m_zs_spread 4 93 0 0 26 [some (.ref (1)), some (.int (bI (b))), some (.int (nI (i)))] [.int (bI (z_lk (spK E b k R i) i))] (zs_put h (spK E b k R i)) N _
      refine e_ifB_eq (pc := 26) (tgt := 60) d_zs_spread_26 (by decide) (fun c2 => ?_) (fun c2 => ?_)
      · refine e_iincN (pc := 60) d_zs_spread_60 (a := i) (b := 1) rfl rfl (by decide) ?_
        refine e_goto (pc := 63) (tgt := 16) d_zs_spread_63 (by decide) ?_
        have e1 : spK E b k R (i + 1) = spK E b k R i := by rw [spK, sp1, if_neg (by rw [c2]; decide)]
        have := ih (i + 1) (by omega) (by omega)
        rw [e1] at this
        exact this
      · refine e_aload_n (pc := 29) d_zs_spread_29 rfl ?_
        refine e_get (pc := 30) d_zs_spread_30 fl_zs_11 zs_g1 rfl ?_
        refine e_iload_n (pc := 33) d_zs_spread_33 rfl ?_
        refine e_aaldN (pc := 34) d_zs_spread_34 zs_g2 (fun _ => rfl) (by omega) (by decide) rfl ?_
        refine e_aload_n (pc := 35) d_zs_spread_35 rfl ?_
        refine e_get (pc := 36) d_zs_spread_36 fl_zs_11 zs_g1 rfl ?_
        refine e_aload_n (pc := 39) d_zs_spread_39 rfl ?_
        refine e_get (pc := 40) d_zs_spread_40 fl_zs_28 zs_g1 rfl ?_
        rw [show ldI (z_ld (spK E b k R i)) = nI k by rw [hli]; rfl]
        refine e_aaldN (pc := 43) d_zs_spread_43 zs_g2 (fun _ => rfl) (by omega) (by decide) rfl ?_
        refine e_aload_n (pc := 44) d_zs_spread_44 rfl ?_
        refine e_get (pc := 45) d_zs_spread_45 fl_zs_32 zs_g1 rfl ?_
        obtain ⟨R1, hR1⟩ : ∃ x, x = (spK E b k R i) := ⟨_, rfl⟩
        have hM : q_Met l G m_sv_follow 0 0 0 0 [.ref (9 + 7 * (i)), .ref (9 + 7 * (k)), .int (nI (z_ep R1))] (zs_put h R1) N (q_To none (zs_put h (flR k i R1)) N) := by
          rw [hR1]
          by_cases e : i = k
          · subst e
            have := c_sv_follow1 (l := l) (G := G) htr (N := N) (zs_v (h := h) (R := (spK E b i R i)) c) (hOi.2.2.2 i c).1.1 (fun j hj => by obtain ⟨a, vs, z1, z2, -⟩ := zEn_ob (R := (spK E b i R i)) (hOi.2.2.2 i c).1 j hj; exact ⟨a, vs, z1, z2⟩) (na := z_ep (spK E b i R i))
            rw [zs_uV c] at this
            unfold flR
            rw [cpL_self]
            exact this
          · have := c_sv_follow (l := l) (G := G) htr (N := N) (zs_v (h := h) (R := (spK E b k R i)) c) (zs_v (h := h) (R := (spK E b k R i)) hk) (by omega) (hOi.2.2.2 k hk).1.1 (fun j hj => by obtain ⟨a, vs, z1, z2, z3⟩ := zEn_ob (R := (spK E b k R i)) (hOi.2.2.2 k hk).1 j hj; exact ⟨a, vs, z1, z2, by omega⟩) (na := z_ep (spK E b k R i))
            rw [zs_uV c] at this
            exact this
        rw [hR1] at hM
        refine e_callV (As := [.ref (9 + 7 * (k)), .int (nI (z_ep (spK E b k R i)))]) (st := []) (cc2 := 0) (ss2 := 0) (pc := 48) d_zs_spread_48 rfl cv_zs_236 (zs_v c).1 rfl (hM) rfl (by decide) (by decide) (by omega) (by omega) (Nat.le_of_ble_eq_true rfl) (fun _ _ _ hq => nomatch hq.1) (fun r h2 N2 hq => ?_)
        obtain ⟨hr, e1, e2⟩ := hq
        cases hr
        rw [e1, e2]
        clear e1 e2
        show q_Ev l G m_zs_spread 4 93 0 0 51 [some (.ref (1)), some (.int (bI (b))), some (.int (nI (i)))] [] _ N _
        have hOf : zOK h E (flR k i (spK E b k R i)) := zOK_fl hOi hk
        refine e_iload_n (pc := 51) d_zs_spread_51 rfl ?_
        refine e_ifB_eq (pc := 52) (tgt := 60) d_zs_spread_52 (by decide) (fun c3 => ?_) (fun c3 => ?_)
        · refine e_iincN (pc := 60) d_zs_spread_60 (a := i) (b := 1) rfl rfl (by decide) ?_
          refine e_goto (pc := 63) (tgt := 16) d_zs_spread_63 (by decide) ?_
          have e1 : spK E b k R (i + 1) = flR k i (spK E b k R i) := by rw [spK, sp1, if_pos c2, if_neg (by rw [c3]; decide)]
          have := ih (i + 1) (by omega) (by omega)
          rw [e1] at this
          exact this
        · refine e_aload_n (pc := 55) d_zs_spread_55 rfl ?_
          refine e_iload_n (pc := 56) d_zs_spread_56 rfl ?_
          refine e_callV (As := [.int (nI (i))]) (st := []) (cc2 := 0) (ss2 := 0) (pc := 57) d_zs_spread_57 rfl cv_zs_240 zs_g1 rfl (c_zs_applyLog htr c hOf.2.1 (hOf.2.2.2 i c).1 (hOf.2.2.2 i c).2.1) rfl (by decide) (by decide) (by omega) (by omega) (Nat.le_of_ble_eq_true rfl) (fun _ _ _ hq => nomatch hq.1) (fun r h2 N2 hq => ?_)
          obtain ⟨hr, e1, e2⟩ := hq
          cases hr
          rw [e1, e2]
          clear e1 e2
          show q_Ev l G m_zs_spread 4 93 0 0 60 [some (.ref (1)), some (.int (bI (b))), some (.int (nI (i)))] [] _ N _
          refine e_iincN (pc := 60) d_zs_spread_60 (a := i) (b := 1) rfl rfl (by decide) ?_
          refine e_goto (pc := 63) (tgt := 16) d_zs_spread_63 (by decide) ?_
          have e1 : spK E b k R (i + 1) = apR E i (flR k i (spK E b k R i)) := by rw [spK, sp1, if_pos c2, if_pos c3]
          have := ih (i + 1) (by omega) (by omega)
          rw [e1] at this
          exact this
set_option maxHeartbeats 4000000 in
set_option maxRecDepth 100000 in
theorem c_zs_spread {l : Launch} {G : q_G} (htr : l.stackTraces = false) {h : q_H} {N : Nat} {R : zR} {E : Nat → zE} (hO : zOK h E R) : q_Met l G m_zs_spread 4 93 0 0 [.ref (1)] (zs_put h R) N (q_To none (zs_put h (spR E R)) N) := by
  refine q_Met.mk htr (by decide +kernel) rfl (List.forall_mem_cons.mpr ⟨rfl, fun _ h => nomatch h⟩) (Nat.le_of_ble_eq_true rfl) ?_
  refine e_aload_n (pc := 0) d_zs_spread_0 rfl ?_
  refine e_get (pc := 1) d_zs_spread_1 fl_zs_28 zs_g1 rfl ?_
  refine e_iconst (pc := 4) d_zs_spread_4 (v := (-1)) rfl ?_
  refine e_icmp_ne (pc := 5) (tgt := 9) d_zs_spread_5 (by decide) (fun c => ?_) (fun c => ?_)
  · obtain ⟨k, hl⟩ : ∃ k, z_ld R = some k := by cases hx : z_ld R with | none => exact absurd (by rw [hx]; rfl) c | some k => exact ⟨k, rfl⟩
    have hk := hO.1 k hl
    refine e_aload_n (pc := 9) d_zs_spread_9 rfl ?_
    refine e_callV (As := []) (st := []) (cc2 := 0) (ss2 := 0) (pc := 10) d_zs_spread_10 rfl cv_zs_62 zs_g1 rfl (c_zs_hasQuorum htr hO.1) rfl (by decide) (by decide) (by omega) (by omega) (Nat.le_of_ble_eq_true rfl) (fun _ _ _ hq => nomatch hq.1) (fun r h2 N2 hq => ?_)
    obtain ⟨hr, e1, e2⟩ := hq
    cases hr
    rw [e1, e2]
    clear e1 e2
    show q_Ev l G m_zs_spread 4 93 0 0 13 [some (.ref (1)), none, none] [.int (bI (z_qr R))] (zs_put h R) N _
    refine e_istore_n (pc := 13) d_zs_spread_13 (by decide) ?_
    refine e_iconst (pc := 14) d_zs_spread_14 (v := (nI (0))) rfl ?_
    refine e_istore_n (pc := 15) d_zs_spread_15 (by decide) ?_
    have e1 : spR E R = spK E (z_qr R) k R 3 := by unfold spR; rw [hl]
    rw [e1]
    exact lp_zs_spread (b := z_qr R) htr hO hl 4 0 (by omega) (by omega)
  · have hl := (ldI_m1 hO.1).mp c
    exact e_vret (pc := 8) d_zs_spread_8 rfl (⟨rfl, by unfold spR; rw [hl], rfl⟩)
/-- an ENTRY e at the new address a goes to the leader's LOG and is planned -/
def apP (a : Nat) (e : zE) (R : zR) : zR := match z_ld R with
  | none => R
  | some k => z_sP (z_sV R k (va_up (v_lf (z_V R k)) (v_ln (z_V R k)) (some a), v_ln (z_V R k) + 1, v_ap (z_V R k), v_ag (z_V R k), v_up (z_V R k), v_al (z_V R k))) (playR e (z_P R))
set_option maxHeartbeats 4000000 in
set_option maxRecDepth 100000 in
theorem c_zs_appendAndPlan {l : Launch} {G : q_G} (htr : l.stackTraces = false) {h : q_H} {N : Nat} {R : zR} (hR : z_ok R) {a : Nat} {e : zE} (ha : 41 < a) (he : en_Is h a e) (hk9 : eOK e) (hl64 : ∀ k, z_ld R = some k → v_ln (z_V R k) < 64) : q_Met l G m_zs_appendAndPlan 3 65 0 0 [.ref (1), .ref (a)] (zs_put h R) N (q_To none (zs_put h (apP a e R)) N) := by
  refine q_Met.mk htr (by decide +kernel) rfl (List.forall_mem_cons.mpr ⟨rfl, List.forall_mem_cons.mpr ⟨rfl, fun _ h => nomatch h⟩⟩) (Nat.le_of_ble_eq_true rfl) ?_
  refine e_aload_n (pc := 0) d_zs_appendAndPlan_0 rfl ?_
  refine e_get (pc := 1) d_zs_appendAndPlan_1 fl_zs_28 zs_g1 rfl ?_
  refine e_iconst (pc := 4) d_zs_appendAndPlan_4 (v := (-1)) rfl ?_
  refine e_icmp_eq (pc := 5) (tgt := 29) d_zs_appendAndPlan_5 (by decide) (fun c => ?_) (fun c => ?_)
  · have hl := (ldI_m1 hR).mp c
    exact e_vret (pc := 29) d_zs_appendAndPlan_29 rfl (⟨rfl, by unfold apP; rw [hl], rfl⟩)
  · obtain ⟨k, hl⟩ : ∃ k, z_ld R = some k := by cases hx : z_ld R with | none => exact absurd (by rw [hx]; rfl) c | some k => exact ⟨k, rfl⟩
    have hk := hR k hl
    refine e_aload_n (pc := 8) d_zs_appendAndPlan_8 rfl ?_
    refine e_get (pc := 9) d_zs_appendAndPlan_9 fl_zs_11 zs_g1 rfl ?_
    refine e_aload_n (pc := 12) d_zs_appendAndPlan_12 rfl ?_
    refine e_get (pc := 13) d_zs_appendAndPlan_13 fl_zs_28 zs_g1 rfl ?_
    rw [show ldI (z_ld R) = nI k by rw [hl]; rfl]
    refine e_aaldN (pc := 16) d_zs_appendAndPlan_16 zs_g2 (fun _ => rfl) (by omega) (by decide) rfl ?_
    refine e_aload_n (pc := 17) d_zs_appendAndPlan_17 rfl ?_
    refine e_callV (As := [.ref (a)]) (st := []) (cc2 := 0) (ss2 := 0) (pc := 18) d_zs_appendAndPlan_18 rfl cv_zs_223 (zs_v hk).1 rfl (c_sv_append htr (zs_v hk) ((zs_hi ha).trans he) (by omega) (hl64 k hl)) rfl (by decide) (by decide) (by omega) (by omega) (Nat.le_of_ble_eq_true rfl) (fun _ _ _ hq => nomatch hq.1) (fun r h2 N2 hq => ?_)
    obtain ⟨hr, e1, e2⟩ := hq
    cases hr
    rw [e1, e2]
    clear e1 e2
    show q_Ev l G m_zs_appendAndPlan 3 65 0 0 21 [some (.ref (1)), some (.ref (a))] [] _ N _
    rw [zs_uV hk]
    refine e_aload_n (pc := 21) d_zs_appendAndPlan_21 rfl ?_
    refine e_get (pc := 22) d_zs_appendAndPlan_22 fl_zs_24 zs_g1 rfl ?_
    refine e_aload_n (pc := 25) d_zs_appendAndPlan_25 rfl ?_
    refine e_callV (As := [.ref (a)]) (st := []) (cc2 := 0) (ss2 := 0) (pc := 26) d_zs_appendAndPlan_26 rfl cv_zs_226 zs_tP.1 rfl (c_tr_play htr zs_tP (en_up ha he) hk9 (by omega)) rfl (by decide) (by decide) (by omega) (by omega) (Nat.le_of_ble_eq_true rfl) (fun _ _ _ hq => nomatch hq.1) (fun r h2 N2 hq => ?_)
    obtain ⟨hr, e1, e2⟩ := hq
    cases hr
    rw [e1, e2]
    clear e1 e2
    show q_Ev l G m_zs_appendAndPlan 3 65 0 0 29 [some (.ref (1)), some (.ref (a))] [] _ N _
    rw [zs_uP]
    exact e_vret (pc := 29) d_zs_appendAndPlan_29 rfl (⟨rfl, by unfold apP; rw [hl]; rfl, rfl⟩)
