/-! elect, and the first states -/
def bst (S : mS) (n b : Nat) : Prop := b < n ∧ k_ft S.2.2.2 b = true ∧ ∀ i, i < n → k_ft S.2.2.2 i = true → S.2.2.1 i < S.2.2.1 b ∨ (S.2.2.1 i = S.2.2.1 b ∧ S.1 i ≤ S.1 b)
theorem meK_at (S : mS) : ∀ n, (meK S n).1 = cntB (k_ft S.2.2.2) n ∧ (∀ b, (meK S n).2 = some b → bst S n b) ∧ ((meK S n).2 = none → ∀ i, i < n → k_ft S.2.2.2 i = false) := by
  intro n
  induction n with
  | zero => exact ⟨rfl, fun b hb => (nomatch hb), fun _ i hi => by omega⟩
  | succ n ih =>
    obtain ⟨i1, i2, i3⟩ := ih
    unfold meK cntB
    by_cases c : k_ft S.2.2.2 n = true
    · rw [if_pos c, if_pos c]
      refine ⟨by rw [← i1], ?_, ?_⟩
      · intro b hb
        cases e : (meK S n).2 with
        | none =>
          rw [e] at hb
          have hb2 : some n = some b := hb
          have : n = b := Option.some.inj hb2
          subst this
          refine ⟨Nat.lt_succ_self n, c, fun i hi hf => ?_⟩
          by_cases c2 : i = n
          · subst c2; exact Or.inr ⟨rfl, Nat.le_refl _⟩
          · have := i3 e i (by omega)
            rw [hf] at this; exact nomatch this
        | some b0 =>
          rw [e] at hb
          obtain ⟨j1, j2, j3⟩ := i2 b0 e
          have hb2 : (if S.2.2.1 b0 < S.2.2.1 n ∨ (S.2.2.1 n = S.2.2.1 b0 ∧ S.1 b0 < S.1 n) then some n else some b0) = some b := hb
          by_cases c3 : S.2.2.1 b0 < S.2.2.1 n ∨ (S.2.2.1 n = S.2.2.1 b0 ∧ S.1 b0 < S.1 n)
          · rw [if_pos c3] at hb2
            have : n = b := Option.some.inj hb2
            subst this
            refine ⟨Nat.lt_succ_self n, c, fun i hi hf => ?_⟩
            by_cases c2 : i = n
            · subst c2; exact Or.inr ⟨rfl, Nat.le_refl _⟩
            · have := j3 i (by omega) hf
              omega
          · rw [if_neg c3] at hb2
            have : b0 = b := Option.some.inj hb2
            subst this
            refine ⟨by omega, j2, fun i hi hf => ?_⟩
            by_cases c2 : i = n
            · subst c2; omega
            · exact j3 i (by omega) hf
      · intro hb
        cases e : (meK S n).2 with
        | none => rw [e] at hb; exact nomatch hb
        | some b0 =>
          rw [e] at hb
          have hb2 : (if S.2.2.1 b0 < S.2.2.1 n ∨ (S.2.2.1 n = S.2.2.1 b0 ∧ S.1 b0 < S.1 n) then some n else some b0) = none := hb
          split at hb2 <;> exact nomatch hb2
    · rw [if_neg c, if_neg c]
      refine ⟨i1, fun b hb => ?_, fun hb i hi => ?_⟩
      · obtain ⟨j1, j2, j3⟩ := i2 b hb
        refine ⟨by omega, j2, fun i hi hf => ?_⟩
        by_cases c2 : i = n
        · subst c2; exact absurd hf c
        · exact j3 i (by omega) hf
      · by_cases c2 : i = n
        · subst c2; exact Bool.eq_false_iff.mpr c
        · exact i3 hb i (by omega)
theorem elK_m {R : zR} {S : mS} (h : ∀ i, i < 3 → z_on R i = k_ft S.2.2.2 i ∧ v_ag (z_V R i) = S.2.2.1 i ∧ v_ln (z_V R i) = S.1 i) : ∀ n, n ≤ 3 → elK R n = meK S n := by
  intro n
  induction n with
  | zero => intro _; rfl
  | succ n ih =>
    intro hn
    have e := ih (by omega)
    obtain ⟨h1, h2, h3⟩ := h n (by omega)
    unfold elK meK
    rw [e, h1]
    split
    · congr 1
      cases eb : (meK S n).2 with
      | none => rfl
      | some b =>
        have hb := ((meK_at S n).2.1 b eb).1
        obtain ⟨g1, g2, g3⟩ := h b (by omega)
        show (if z_lb R n b = true then some n else some b) = if S.2.2.1 b < S.2.2.1 n ∨ (S.2.2.1 n = S.2.2.1 b ∧ S.1 b < S.1 n) then some n else some b
        unfold z_lb
        rw [h2, h3, g2, g3]
        by_cases c : S.2.2.1 b < S.2.2.1 n ∨ (S.2.2.1 n = S.2.2.1 b ∧ S.1 b < S.1 n)
        · rw [if_pos c, if_pos (decide_eq_true c)]
        · rw [if_neg c, if_neg (fun z => c (of_decide_eq_true z))]
    · rfl
theorem RI_el {ld : Option Nat} {ep b : Nat} {L : mL} {S : mS} (h : RI ld ep L S) (hb : bst S 3 b) (h2 : 2 ≤ cntB (k_ft S.2.2.2) 3) : RI (some b) (ep + 1) L S := by
  obtain ⟨C, c, a, ha, hi, ⟨i1, i2, q1, q2, q3, q4, q5⟩, h4⟩ := h
  obtain ⟨u1, u2, w1, w2, w3, w4, w5⟩ := cnt2 (show 1 < cntB (k_ft S.2.2.2) 3 from h2)
  obtain ⟨b1, b2, b3⟩ := hb
  have hq : Qu S a c b := by
    have key : ∀ i, i < 3 → k_ft S.2.2.2 i = true → Qu S a c i → Qu S a c b := fun i hi3 hf q => by
      have := b3 i hi3 hf
      unfold Qu at q ⊢
      omega
    rcases (by omega : i1 = u1 ∨ i1 = u2 ∨ i2 = u1 ∨ i2 = u2) with e | e | e | e
    · exact key i1 q1 (by rw [e]; exact w4) q4
    · exact key i1 q1 (by rw [e]; exact w5) q4
    · exact key i2 q2 (by rw [e]; exact w4) q5
    · exact key i2 q2 (by rw [e]; exact w5) q5
  refine ⟨C, c, a, by omega, fun i hi3 => ?_, ⟨i1, i2, q1, q2, q3, q4, q5⟩, fun k hk => ?_⟩
  · obtain ⟨j1, j2⟩ := hi i hi3
    exact ⟨by omega, j2⟩
  · have : b = k := Option.some.inj hk
    subst this
    obtain ⟨-, -, -, -, j5⟩ := hi b b1
    obtain ⟨m1, m2⟩ := j5 hq
    refine ⟨m1, m2, fun i hi3 he => ?_⟩
    have := (hi i hi3).1
    omega
theorem GT_pl {E : Nat → zE} {R : zR} {L : mL} {S : mS} {k : Nat} (hV : VR E L S (z_V R k) k) (hL : LV L k (S.1 k)) (hb : S.1 k < 1000) : ∀ n, n ≤ S.1 k → GT (plK E k R n) L k n := by
  intro n
  induction n with
  | zero =>
    intro _ T
    have e : grT L k 0 T = plT T := rfl
    rw [e]
    refine TR_0 (fun q hq => ?_) (fun q hq => ?_) (fun q hq => ?_) ?_
    · show upd (fillN (z_P R).2.1 259 (-1)) 0 (nI 0) q = _
      by_cases c : q = 0
      · subst c; rw [upd_s, if_pos rfl]
      · rw [upd_n c, if_neg c]
        unfold fillN; rw [if_pos hq]
    · show fillN (z_P R).2.2.1 259 (-1) q = -1
      unfold fillN; rw [if_pos hq]
    · show fillN (z_P R).2.2.2 43 (nI 0) q = nI 0
      unfold fillN; rw [if_pos hq]
    · show fillN (z_P R).1 259 (nI 0) 0 = nI 0
      unfold fillN; rw [if_pos (by decide)]
  | succ n ih =>
    intro hn
    obtain ⟨-, -, -, -, -, v6⟩ := hV
    obtain ⟨w1, w2⟩ := v6 n (by omega)
    refine GT_s (e := E ((v_lf (z_V R k) n).getD 0)) (ih (by omega)) (by omega) w1 w2 (fun z T => ?_)
    have h5 := hL n (by omega) (by rw [w2]; exact (eC_1 w1).mp z) T
    rw [w2] at h5
    exact h5
/-- the class alone: room for what is due -/
def CB (R : zR) : Prop := ∀ k, z_ld R = some k → v_ln (z_V R k) + oc (z_P R) ≤ 64
theorem sp1_ln {E : Nat → zE} {b : Bool} {k i : Nat} {R : zR} : v_ln (z_V (sp1 E b k i R) k) = v_ln (z_V R k) := by
  have hf : v_ln (z_V (flR k i R) k) = v_ln (z_V R k) := by
    show v_ln (va_up (z_V R) i _ k) = _
    by_cases c : k = i
    · subst c; rw [up_s]
    · rw [up_n c]
  unfold sp1
  split
  · split
    · rw [← hf]
      generalize flR k i R = R1
      show v_ln (va_up (z_V (apF E i R1 _)) i _ k) = _
      by_cases c : k = i
      · subst c; rw [up_s]
      · rw [up_n c, apF_V]
    · exact hf
  · rfl
theorem spK_ln {E : Nat → zE} {b : Bool} {k : Nat} {R : zR} : ∀ i, v_ln (z_V (spK E b k R i) k) = v_ln (z_V R k) := by
  intro i
  induction i with
  | zero => rfl
  | succ i ih => exact sp1_ln.trans ih
theorem spR_ln {E : Nat → zE} {R : zR} {k : Nat} (hk : z_ld R = some k) : v_ln (z_V (spR E R) k) = v_ln (z_V R k) := by
  unfold spR
  rw [hk]
  exact spK_ln 3
theorem CB_c1 {x : zX} {i : Nat} (hi : i < 4) (h : CB (x_R x)) : clC i x ∧ CB (x_R (cl1 i x)) := by
  refine ⟨fun _ hc k hk => ?_, ?_⟩
  · have h1 := h k hk
    have h2 := oc_pos (t := z_P (x_R x)) hi hc
    omega
  · unfold cl1
    by_cases c : s_du (z_S (x_R x) i) = true
    · rw [if_pos c]
      by_cases c2 : 0 < z_cO (x_R x) (nI i)
      · rw [if_pos c2]
        intro k hk
        have hk2 : z_ld (x_R (x_pr (3, 0, nI 0, nI i, false) x)) = some k := hk
        have hk3 : z_ld (x_R x) = some k := by
          have h9 := (Kp_sp (va_up (x_E x) (x_N x + 1) (3, 0, nI 0, nI i, false)) (apP (x_N x + 1) (3, 0, nI 0, nI i, false) (x_R x))).1.1
          rw [(apP_S _ _ _).2] at h9
          exact h9.symm.trans hk2
        have e1 : z_ld (apP (x_N x + 1) (3, 0, nI 0, nI i, false) (x_R x)) = some k := (apP_S _ _ _).2.trans hk3
        have e2 : v_ln (z_V (x_R (x_pr (3, 0, nI 0, nI i, false) x)) k) = v_ln (z_V (x_R x) k) + 1 := by
          have e3 := spR_ln (E := va_up (x_E x) (x_N x + 1) (3, 0, nI 0, nI i, false)) e1
          refine e3.trans ?_
          unfold apP
          rw [hk3]
          show v_ln (va_up (z_V (x_R x)) k _ k) = _
          rw [up_s]
        show v_ln (z_V (x_R (x_pr (3, 0, nI 0, nI i, false) x)) k) + oc (z_P (x_R (x_pr (3, 0, nI 0, nI i, false) x))) ≤ 64
        rw [e2, pr_P _ x hk3]
        have h1 := h k hk3
        have h2 := oc_close (t := z_P (x_R x)) (p := 0) (d := nI 0) (b := false) hi c2
        omega
      · rw [if_neg c2]
        exact h
    · rw [if_neg c]
      exact h
theorem CB_cl : ∀ (g i : Nat) (x : zX), i + g = 4 → CB (x_R x) → clOK g i x := by
  intro g
  induction g with
  | zero => intro i x _ _; exact trivial
  | succ g ih =>
    intro i x h1 h2
    obtain ⟨c1, c2⟩ := CB_c1 (show i < 4 by omega) h2
    exact ⟨c1, ih (i + 1) (cl1 i x) (by omega) c2⟩
theorem el_GT {x : zX} {M : mR} {k : Nat} (h : INV x M) (hk : k < 3) : GT (plK (x_E x) k (z_el1 k (x_R x)) (v_ln (z_V (x_R x) k))) M.2.1 k (M.2.2.1.1 k) := by
  obtain ⟨b1, t, b2, b3⟩ := h.1.2.2.2.1 k hk
  have hV := h.1.2.2.1.2.1 k hk
  rw [hV.1]
  exact GT_pl (R := z_el1 k (x_R x)) hV b1 (by omega) _ (Nat.le_refl _)
theorem cl_el {x : zX} {M : mR} (h : INV x M) : ∀ k, k < 3 → clOK 4 0 (z_el0 k x) := fun k hk => by
  refine CB_cl 4 0 _ rfl (fun k' hk' => ?_)
  have hKp := Kp_sp (x_E x) (z_sP (z_el1 k (x_R x)) (plK (x_E x) k (z_el1 k (x_R x)) (v_ln (z_V (x_R x) k))))
  have e0 : some k = some k' := hKp.1.1.symm.trans hk'
  have e1 : k = k' := Option.some.inj e0
  subst e1
  have e2 : v_ln (z_V (x_R (z_el0 k x)) k) = v_ln (z_V (x_R x) k) := spR_ln (E := x_E x) (R := z_sP (z_el1 k (x_R x)) (plK (x_E x) k (z_el1 k (x_R x)) (v_ln (z_V (x_R x) k)))) rfl
  have e3 : z_P (x_R (z_el0 k x)) = plK (x_E x) k (z_el1 k (x_R x)) (v_ln (z_V (x_R x) k)) := hKp.1.2.2.2
  obtain ⟨b1, t, b2, b3⟩ := h.1.2.2.2.1 k hk
  rw [e2, e3, GT_ow (el_GT h hk) b2, (h.1.2.2.1.2.1 k hk).1]
  exact b3
theorem eq_elect {x : zX} {M : mR} (h : INV x M) (hep : z_ep (x_R x) + 1 < 100000) : Ag [ISE] (z_elect x) (m_elect M) := by
  unfold z_elect m_elect
  obtain ⟨⟨fa, ld, ep, tm⟩, L, S, C, W, T⟩ := M
  obtain ⟨r1, r2, r3, r4⟩ := h.1.2.2.1
  have e1 : elK (x_R x) 3 = meK S 3 := elK_m (fun i hi => ⟨on_k (r2 i hi).2.2.2.1 (r2 i hi).2.2.2.2.1, (r2 i hi).2.2.1, (r2 i hi).1⟩) 3 (Nat.le_refl _)
  rw [e1]
  dsimp only
  obtain ⟨m1, m2, m3⟩ := meK_at S 3
  by_cases c : 2 ≤ (meK S 3).1
  · rw [if_pos c, if_pos c]
    cases e : (meK S 3).2 with
    | none => exact Ag_F h rfl
    | some b =>
      have hb := m2 b e
      dsimp only
      have hI : IV (x_sR x (z_sP (z_el1 b (x_R x)) (plK (x_E x) b (z_el1 b (x_R x)) (v_ln (z_V (x_R x) b))))) (m_el b ((fa, ld, ep, tm), L, S, C, W, T)) := by
        refine ⟨⟨zOK_sP (zOK_s0 h.1.1.1 _ (fun k hk => ?_) hep) _, h.1.1.2⟩, h.1.2.1, ⟨⟨rfl, ?_, r1.2.2⟩, r2, r3, r4⟩, h.1.2.2.2.1, ?_, fun k hk => ?_, h.1.2.2.2.2.2.2⟩
        · have : b = k := Option.some.inj hk
          rw [← this]; exact hb.1
        · show z_ep (x_R x) + 1 = ep + 1
          rw [r1.2.1]
        · exact RI_el (S := S) h.1.2.2.2.2.1 hb (by rw [← m1]; exact c)
        · have : b = k := Option.some.inj hk
          subst this
          have h9 := el_GT h hb.1
          exact h9
      exact Ag_C (IV_sp hI) (DU_sp (M := m_el b ((fa, ld, ep, tm), L, S, C, W, T)) h.2.1) (PN_sp (IV_PN hI (k := b) rfl))
  · rw [if_neg c, if_neg c]
    exact Ag_F h rfl
/-- the newly made ones -/
theorem INV_0 {h : q_H} {N : Nat} (hN : 41 ≤ N) (hh : ∀ a, N < a → h a = none) : INV (h, (fun _ => (0, 0, 0, 0, false)), N, R00) M00 := by
  have hG : ∀ i, GT t00 M00.2.1 i 0 := fun i T => by
    have e : grT M00.2.1 i 0 T = plT T := rfl
    rw [e]
    refine TR_0 (fun q hq => ?_) (fun q hq => ?_) (fun q hq => rfl) rfl
    · show upd (fillN (fun _ => 0) 259 (-1)) 0 (nI 0) q = _
      by_cases c : q = 0
      · subst c; rw [upd_s, if_pos rfl]
      · rw [upd_n c, if_neg c]
        unfold fillN; rw [if_pos hq]
    · show fillN (fun _ => 0) 259 (-1) q = -1
      unfold fillN; rw [if_pos hq]
  have hag : ∀ i, i < 3 → M00.2.2.1.2.2.1 i = 1 := fun i hi => by
    rcases (by omega : i = 0 ∨ i = 1 ∨ i = 2) with rfl | rfl | rfl <;> rfl
  have hoc : oc t00 = 0 := by
    unfold oc
    refine cnt_z (fun s hs => decide_eq_false (fun z => ?_))
    have e : coT t00 (nI s) = 0 := cnt_z (fun q hq => decide_eq_false (fun y => by
      have y2 : fillN (fun _ => 0) 259 (-1) q = nI s := y.2
      unfold fillN at y2
      rw [if_pos hq] at y2
      exact nI_ne (by omega) y2.symm))
    omega
  refine ⟨⟨⟨⟨fun k hk => ?_, fun j => ⟨?_, ?_⟩, ?_, fun i hi => ⟨⟨?_, fun j hj => ?_⟩, ?_, ?_⟩⟩, hN⟩, hh, ⟨⟨rfl, rfl, rfl⟩, fun i hi => ⟨rfl, rfl, (hag i hi).symm, rfl, rfl, fun j hj => ?_⟩, fun j hj => ⟨rfl, rfl, rfl, rfl, fun q hq => rfl, rfl, ?_, fun k hk => ?_⟩, fun i hi => hG i⟩, fun i hi => ⟨fun j hj => ?_, t00, hG i, ?_⟩, ?_, fun k hk => hG k, fun j hj ho q hq => rfl⟩, fun j hj => rfl, fun _ j hj => rfl, fun p hp => ⟨0, by decide, rfl⟩⟩
  · have : 0 = k := Option.some.inj hk
    omega
  · show (0 : Nat) < 3
    decide
  · show (0 : Nat) ≤ 8
    decide
  · show (1 : Nat) < 100000
    decide
  · show (0 : Nat) ≤ 64
    decide
  · exact absurd hj (Nat.not_lt_zero j)
  · show (0 : Nat) ≤ 64
    decide
  · show (1 : Nat) < 100000
    decide
  · exact absurd hj (Nat.not_lt_zero j)
  · show (0 : Nat) ≤ 8
    decide
  · exact absurd hk (Nat.not_lt_zero k)
  · exact absurd hj (Nat.not_lt_zero j)
  · show 0 + oc t00 ≤ 64
    rw [hoc]; decide
  · refine ⟨fun _ => (0, 0, 0, 0), 0, 1, Nat.le_refl _, fun i hi => ⟨?_, Nat.le_refl _, Nat.le_refl _, fun j hj => absurd hj (Nat.not_lt_zero j), fun _ => ⟨Nat.zero_le _, fun j hj => absurd hj (Nat.not_lt_zero j)⟩⟩, ⟨0, 1, by decide, by decide, by decide, Or.inr ⟨rfl, Nat.le_refl _⟩, Or.inr ⟨rfl, Nat.le_refl _⟩⟩, fun k hk => ⟨Nat.zero_le _, fun j hj => absurd hj (Nat.not_lt_zero j), fun i hi _ => ⟨Nat.le_refl _, fun j hj => absurd hj (Nat.not_lt_zero j)⟩⟩⟩
    rw [hag i hi]
    exact Nat.le_refl _
