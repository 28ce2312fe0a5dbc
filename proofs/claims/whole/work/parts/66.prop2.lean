/-! PROPOSING: the class's and the model's -/
theorem RI_app {ep k : Nat} {L : mL} {ln ap ag : Nat → Nat} {D : mD} {x : zM} (h : RI (some k) ep L (ln, ap, ag, D)) (hk : k < 3) (hb : ∀ i, i < 3 → ln i < 80) : RI (some k) ep (sE L (80 * k + ln k) x) (va_up ln k (ln k + 1), ap, ag, D) := by
  obtain ⟨C, c, a, ha, hi, ⟨i1, i2, q1, q2, q3, q4, q5⟩, h4⟩ := h
  obtain ⟨k1, k2, k3⟩ := h4 k rfl
  unfold Qu at hi q4 q5
  dsimp only at hi q4 q5 k1 k2 k3
  have e : ∀ i j, j < 80 → (i ≠ k ∨ j ≠ ln k) → eL (sE L (80 * k + ln k) x) (80 * i + j) = eL L (80 * i + j) := fun i j hj hc => by
    have hbk := hb k hk
    rw [eL_sE, if_neg (by omega)]
  have ek : va_up ln k (ln k + 1) k = ln k + 1 := up_s
  have en : ∀ i, i ≠ k → va_up ln k (ln k + 1) i = ln i := fun i hi => up_n hi
  have el : ∀ i, ln i ≤ va_up ln k (ln k + 1) i := fun i => by
    by_cases c : i = k
    · subst c; rw [ek]; omega
    · rw [en i c]; exact Nat.le_refl _
  have qq : ∀ i, (a < ag i ∨ (ag i = a ∧ c ≤ ln i)) → (a < ag i ∨ (ag i = a ∧ c ≤ va_up ln k (ln k + 1) i)) := fun i q => by have := el i; omega
  have hbk := hb k hk
  refine ⟨C, c, a, ha, fun i hi3 => ?_, ⟨i1, i2, q1, q2, q3, qq i1 q4, qq i2 q5⟩, fun k' hk' => ?_⟩
  · obtain ⟨j1, j2, j3, j4, j5⟩ := hi i hi3
    have hbi := hb i hi3
    unfold Qu
    dsimp only
    refine ⟨j1, j2, Nat.le_trans j3 (el i), fun j hj => (e i j (by omega) (by
      by_cases c2 : i = k
      · subst c2; exact Or.inr (by omega)
      · exact Or.inl c2)).trans (j4 j hj), fun q => ?_⟩
    by_cases c2 : i = k
    · subst c2
      rw [ek]
      exact ⟨by omega, fun j hj => (e i j (by omega) (Or.inr (by omega))).trans (k2 j hj)⟩
    · rw [en i c2] at q ⊢
      obtain ⟨m1, m2⟩ := j5 q
      exact ⟨m1, fun j hj => (e i j (by omega) (Or.inl c2)).trans (m2 j hj)⟩
  · have : k' = k := (Option.some.inj hk').symm
    subst this
    dsimp only
    rw [ek]
    refine ⟨by omega, fun j hj => (e k' j (by omega) (Or.inr (by omega))).trans (k2 j hj), fun i hi3 he => ?_⟩
    by_cases c2 : i = k'
    · subst c2
      rw [ek]
      exact ⟨Nat.le_refl _, fun j _ => rfl⟩
    · rw [en i c2]
      have hbi := hb i hi3
      obtain ⟨m1, m2⟩ := k3 i hi3 he
      exact ⟨by omega, fun j hj => (e i j (by omega) (Or.inl c2)).trans ((m2 j hj).trans (e k' j (by omega) (Or.inr (by omega))).symm)⟩
theorem VR_ext {E E' : Nat → zE} {L : mL} {S : mS} {v : zV} {i : Nat} (h : VR E L S v i) (he : ∀ j, j < v_ln v → E' ((v_lf v j).getD 0) = E ((v_lf v j).getD 0)) : VR E' L S v i := by
  obtain ⟨h1, h2, h3, h4, h5, h6⟩ := h
  refine ⟨h1, h2, h3, h4, h5, fun j hj => ?_⟩
  rw [he j (by rw [h1]; exact hj)]
  exact h6 j hj
theorem zEn_new {h : q_H} {E : Nat → zE} {N : Nat} {v : zV} {e : zE} (hE : zEn h E v) (hf : h (N + 1) = none) : ∀ j, j < v_ln v → va_up E (N + 1) e ((v_lf v j).getD 0) = E ((v_lf v j).getD 0) := fun j hj => by
  obtain ⟨a, h1, h2, h3, h4⟩ := hE.2 j hj
  rw [h1]
  refine up_n (fun z => ?_)
  have z2 : a = N + 1 := z
  have h5 : h a = some _ := h3
  rw [z2, hf] at h5
  exact nomatch h5
theorem PRP {h : q_H} {E : Nat → zE} {N : Nat} {R : zR} {M : mR} {e : zE} (hE : ∀ i, i < 3 → zEn h E (z_V R i)) (hf : h (N + 1) = none) (hk : Kk M) (hr : Rel E R M) (hB : Bd M) (hR : RIm M) (hP : Pl R M) (he : eW e) (hs : ∀ r, M.1.2.1 = some r → e.1 = 1 → ∀ T, (grT M.2.1 r (M.2.2.1.1 r) T).1 e.2.1 = true) (hb : ∀ r, M.1.2.1 = some r → M.2.2.1.1 r + 1 + oc (playR e (z_P R)) ≤ 64) : Rel (va_up E (N + 1) e) (spR (va_up E (N + 1) e) (apP (N + 1) e R)) (prM (eC e) M) ∧ Bd (prM (eC e) M) ∧ RIm (prM (eC e) M) ∧ Pl (spR (va_up E (N + 1) e) (apP (N + 1) e R)) (prM (eC e) M) := by
  obtain ⟨⟨fa, ld, ep, tm⟩, L, ⟨ln, ap, ag, D⟩, C, W, T⟩ := M
  obtain ⟨⟨hld, hep, htm⟩, hV, hS, hG⟩ := hr
  have hV2 : ∀ i, i < 3 → VR (va_up E (N + 1) e) L (ln, ap, ag, D) (z_V R i) i := fun i hi => VR_ext (hV i hi) (zEn_new (hE i hi) hf)
  cases ld with
  | none =>
    have e0 : z_ld R = none := hld
    have e1 : apP (N + 1) e R = R := by unfold apP; rw [e0]
    have e2 : spR (va_up E (N + 1) e) R = R := by unfold spR; rw [e0]
    rw [e1, e2]
    exact ⟨⟨⟨hld, hep, htm⟩, hV2, hS, hG⟩, hB, hR, hP⟩
  | some k =>
    have e0 : z_ld R = some k := hld
    have hk3 := hk k rfl
    have hP0 : GT (z_P R) L k (ln k) := hP k rfl
    have hb0 : ln k + 1 + oc (playR e (z_P R)) ≤ 64 := hb k rfl
    have hs0 : e.1 = 1 → ∀ T, (grT L k (ln k) T).1 e.2.1 = true := hs k rfl
    have hb8 : ∀ i, i < 3 → ln i < 80 := fun i hi => by
      obtain ⟨-, t, -, h9⟩ := hB i hi
      have : ln i + oc t ≤ 64 := h9
      omega
    have hlnk : v_ln (z_V R k) = ln k := (hV k hk3).1
    have eA : apP (N + 1) e R = z_sP (z_sV R k (va_up (v_lf (z_V R k)) (ln k) (some (N + 1)), ln k + 1, v_ap (z_V R k), v_ag (z_V R k), v_up (z_V R k), v_al (z_V R k))) (playR e (z_P R)) := by
      unfold apP; rw [e0]; dsimp only; rw [hlnk]
    obtain ⟨L2, hL2⟩ : ∃ L2, L2 = sE L (80 * k + ln k) (eC e) := ⟨_, rfl⟩
    have eM : prM (eC e) ((fa, some k, ep, tm), L, (ln, ap, ag, D), C, W, T) = spM ((fa, some k, ep, tm), L2, (va_up ln k (ln k + 1), ap, ag, D), C, W, T) := by rw [hL2]; rfl
    have eo : ∀ i j, j < 80 → (i ≠ k ∨ j ≠ ln k) → eL L (80 * i + j) = eL L2 (80 * i + j) := fun i j hj hc => by
      have hbk := hb8 k hk3
      rw [hL2, eL_sE, if_neg (by omega)]
    have ee : eL L2 (80 * k + ln k) = eC e := by rw [hL2, eL_sE, if_pos rfl]
    have hGk : GT (playR e (z_P R)) L2 k (ln k + 1) := by
      have h1 : GT (z_P R) L2 k (ln k) := GT_congr hP0 (fun j hj => eo k j (by have := hb8 k hk3; omega) (Or.inr (by omega)))
      refine GT_s h1 (by omega) he ee (fun z T => ?_)
      rw [← grT_congr (L := L) (b := k) (n := ln k) (fun j hj => eo k j (by have := hb8 k hk3; omega) (Or.inr (by omega))) T]
      exact hs0 z T
    rw [eA, eM]
    have hLk : va_up ln k (ln k + 1) k = ln k + 1 := up_s
    refine SPR hk ⟨⟨hld, hep, htm⟩, fun i hi => ?_, hS, fun i hi => ?_⟩ (fun i hi => ?_) ?_ (fun k' hk' => ?_)
    · show VR (va_up E (N + 1) e) L2 (va_up ln k (ln k + 1), ap, ag, D) (va_up (z_V R) k (va_up (v_lf (z_V R k)) (ln k) (some (N + 1)), ln k + 1, v_ap (z_V R k), v_ag (z_V R k), v_up (z_V R k), v_al (z_V R k)) i) i
      obtain ⟨w1, w2, w3, w4, w5, w6⟩ := hV2 i hi
      dsimp only at w1 w2 w3 w4 w5 w6
      by_cases c : i = k
      · subst c
        rw [up_s]
        refine ⟨?_, w2, w3, w4, w5, fun j hj => ?_⟩
        · show ln i + 1 = va_up ln i (ln i + 1) i
          exact hLk.symm
        · have hj2 : j < ln i + 1 := by rw [← hLk]; exact hj
          show eW (va_up E (N + 1) e ((va_up (v_lf (z_V R i)) (ln i) (some (N + 1)) j).getD 0)) ∧ eL L2 (80 * i + j) = eC (va_up E (N + 1) e ((va_up (v_lf (z_V R i)) (ln i) (some (N + 1)) j).getD 0))
          by_cases c2 : j = ln i
          · subst c2
            have e9 : va_up E (N + 1) e ((va_up (v_lf (z_V R i)) (ln i) (some (N + 1)) (ln i)).getD 0) = e := by rw [up_s]; exact up_s
            rw [e9]
            exact ⟨he, ee⟩
          · rw [up_n c2, ← eo i j (by have := hb8 i hi; omega) (Or.inr c2)]
            exact w6 j (by omega)
      · rw [up_n c]
        refine ⟨w1.trans (up_n c).symm, w2, w3, w4, w5, fun j hj => ?_⟩
        have hj2 : j < ln i := by
          have : va_up ln k (ln k + 1) i = ln i := up_n c
          rw [← this]; exact hj
        rw [← eo i j (by have := hb8 i hi; omega) (Or.inl c)]
        exact w6 j hj2
    · show GT (z_T R i) L2 i (ap i)
      have h9 : ap i ≤ ln i := RI_ap hR hi
      have h8 := hb8 i hi
      refine GT_congr (hG i hi) (fun j hj => eo i j ?_ ?_)
      · have hj2 : j < ap i := hj
        omega
      · have hj2 : j < ap i := hj
        by_cases c : i = k
        · subst c; exact Or.inr (by omega)
        · exact Or.inl c
    · show LV L2 i (va_up ln k (ln k + 1) i) ∧ ∃ t, GT t L2 i (va_up ln k (ln k + 1) i) ∧ va_up ln k (ln k + 1) i + oc t ≤ 64
      obtain ⟨b1, t, b2, b3⟩ := hB i hi
      by_cases c : i = k
      · subst c
        rw [hLk]
        refine ⟨fun j hj hj2 T => ?_, _, hGk, hb0⟩
        by_cases c2 : j = ln i
        · subst c2
          rw [ee] at hj2 ⊢
          rw [← grT_congr (L := L) (b := i) (n := ln i) (fun j hj => eo i j (by have := hb8 i hi; omega) (Or.inr (by omega))) T]
          exact hs0 ((eC_1 he).mpr hj2) T
        · have b5 : LV L2 i (ln i) := LV_congr b1 (fun j hj => eo i j (by have := hb8 i hi; have hj2 : j < ln i := hj; omega) (Or.inr (by have hj2 : j < ln i := hj; omega)))
          exact b5 j (by omega) hj2 T
      · have e9 : va_up ln k (ln k + 1) i = ln i := up_n c
        rw [e9]
        exact ⟨LV_congr b1 (fun j hj => eo i j (by have := hb8 i hi; have hj2 : j < ln i := hj; omega) (Or.inl c)), t, GT_congr b2 (fun j hj => eo i j (by have := hb8 i hi; have hj2 : j < ln i := hj; omega) (Or.inl c)), b3⟩
    · show RI (some k) ep L2 (va_up ln k (ln k + 1), ap, ag, D)
      rw [hL2]
      exact RI_app hR hk3 hb8
    · have : k' = k := (Option.some.inj hk').symm
      subst this
      show GT (playR e (z_P R)) L2 k' (va_up ln k' (ln k' + 1) k')
      rw [hLk]
      exact hGk
/-- no watches where no session is -/
def NW (R : zR) : Prop := ∀ j, j < 4 → s_op (z_S R j) = false → ∀ q, q < 259 → (s_X (z_S R j)).1 q = nI 0
def IV (x : zX) (M : mR) : Prop := xOK x ∧ (∀ a, x_N x < a → x_h x a = none) ∧ Rel (x_E x) (x_R x) M ∧ Bd M ∧ RIm M ∧ Pl (x_R x) M ∧ NW (x_R x)
def DU (R : zR) (M : mR) : Prop := ∀ j, j < 4 → s_du (z_S R j) = M.2.2.2.1.2.1 j
theorem IV_k {x : zX} {M : mR} (h : IV x M) : Kk M := fun k hk => h.1.1.1 k (h.2.2.1.1.1.trans hk)
theorem apP_S (a : Nat) (e : zE) (R : zR) : z_S (apP a e R) = z_S R ∧ z_ld (apP a e R) = z_ld R := by
  unfold apP
  split
  · exact ⟨rfl, rfl⟩
  · exact ⟨rfl, rfl⟩
theorem pr_S (e : zE) (x : zX) (j : Nat) : (z_S (x_R (x_pr e x)) j).2 = (z_S (x_R x) j).2 ∧ (s_op (z_S (x_R x) j) = false → z_S (x_R (x_pr e x)) j = z_S (x_R x) j) := by
  have h := (Kp_sp (va_up (x_E x) (x_N x + 1) e) (apP (x_N x + 1) e (x_R x))).2 j
  rw [(apP_S (x_N x + 1) e (x_R x)).1] at h
  exact h
theorem prM_1 (x : zM) (M : mR) : (prM x M).1 = M.1 ∧ (prM x M).2.2.2.1 = M.2.2.2.1 ∧ (prM x M).2.2.1.2.2.2 = M.2.2.1.2.2.2 := by
  obtain ⟨⟨fa, ld, ep, tm⟩, L, ⟨ln, ap, ag, D⟩, C, W, T⟩ := M
  cases ld <;> exact ⟨rfl, rfl, rfl⟩
theorem spM_1 (M : mR) : (spM M).1 = M.1 ∧ (spM M).2.2.2.1 = M.2.2.2.1 ∧ (spM M).2.2.1.2.2.2 = M.2.2.1.2.2.2 := by
  obtain ⟨⟨fa, ld, ep, tm⟩, L, ⟨ln, ap, ag, D⟩, C, W, T⟩ := M
  cases ld <;> exact ⟨rfl, rfl, rfl⟩
theorem NW_K {R R' : zR} (h : NW R) (hk : ∀ j, (z_S R' j).2 = (z_S R j).2 ∧ (s_op (z_S R j) = false → z_S R' j = z_S R j)) : NW R' := fun j hj ho q hq => by
  have e : s_op (z_S R j) = false := (congrArg (fun x => x.1) (hk j).1).symm.trans ho
  rw [(hk j).2 e]
  exact h j hj e q hq
theorem IV_pr {x : zX} {M : mR} {e : zE} (h : IV x M) (he : eW e) (hs : ∀ r, M.1.2.1 = some r → e.1 = 1 → ∀ T, (grT M.2.1 r (M.2.2.1.1 r) T).1 e.2.1 = true) (hb : ∀ r, M.1.2.1 = some r → M.2.2.1.1 r + 1 + oc (playR e (z_P (x_R x))) ≤ 64) : IV (x_pr e x) (prM (eC e) M) := by
  have hk := IV_k h
  obtain ⟨h1, h2, h3, h4, h5, h6, h7⟩ := h
  have hf := h2 (x_N x + 1) (by omega)
  obtain ⟨p1, p2, p3, p4⟩ := PRP (fun i hi => (h1.1.2.2.2 i hi).1) hf hk h3 h4 h5 h6 he hs hb
  refine ⟨xOK_pr h1 hf he.1 (fun k hk2 => ?_), fun a ha => ?_, p1, p2, p3, p4, NW_K h7 (pr_S e x)⟩
  · have hk9 : M.1.2.1 = some k := h3.1.1.symm.trans hk2
    have := hb k hk9
    rw [(h3.2.1 k (hk k hk9)).1]
    omega
  · have ha2 : x_N x + 1 < a := ha
    show q_up (x_h x) (x_N x + 1) (en_ob e) a = none
    rw [q_up_n _ (by omega)]
    exact h2 a (by omega)
