/-! SPREADING: the class's and the model's -/
theorem s2F_at {r : Nat} {D : mD} : ∀ (g s : Nat) (X : mL × (Nat → Nat)), s + g = 3 → r < 3 → X.2 r ≤ 80 → (∀ i, i < 3 → (s2F r D g s X).2 i = if s ≤ i ∧ k_lk (some r) D i = true then X.2 r else X.2 i) ∧ ∀ i j, i < 3 → j < 80 → eL (s2F r D g s X).1 (80 * i + j) = if s ≤ i ∧ k_lk (some r) D i = true ∧ j < X.2 r then eL X.1 (80 * r + j) else eL X.1 (80 * i + j) := by
  intro g
  induction g with
  | zero =>
    intro s X h1 hr h2
    exact ⟨fun i hi => (if_neg (fun z => by have := z.1; omega)).symm, fun i j hi _ => (if_neg (fun z => by have := z.1; omega)).symm⟩
  | succ g ih =>
    intro s X h1 hr h2
    have e : s2F r D (g + 1) s X = s2F r D g (s + 1) (if s2c r D s = true then (cpF r s (X.2 r) 0 X.1, va_up X.2 s (X.2 r)) else X) := rfl
    rw [e]
    by_cases c : s2c r D s = true
    · rw [if_pos c]
      have hc : k_lk (some r) D s = true ∧ s ≠ r := by simpa [s2c] using c
      have hr2 : va_up X.2 s (X.2 r) r = X.2 r := up_n (fun z => hc.2 z.symm)
      obtain ⟨i1, i2⟩ := ih (s + 1) (cpF r s (X.2 r) 0 X.1, va_up X.2 s (X.2 r)) (by omega) hr (by show va_up X.2 s (X.2 r) r ≤ 80; rw [hr2]; exact h2)
      dsimp only at i1 i2
      rw [hr2] at i1
      simp only [hr2] at i2
      have hcp := cpF_at (r := r) (s := s) hc.2 (X.2 r) 0 X.1 (by omega)
      refine ⟨fun i hi => ?_, fun i j hi hj => ?_⟩
      · rw [i1 i hi]
        by_cases c2 : i = s
        · subst c2
          rw [if_neg (fun z => by have := z.1; omega), up_s, if_pos ⟨Nat.le_refl _, hc.1⟩]
        · rw [up_n c2]
          by_cases c3 : s ≤ i ∧ k_lk (some r) D i = true
          · rw [if_pos c3, if_pos ⟨by have := c3.1; omega, c3.2⟩]
          · rw [if_neg c3, if_neg (fun z => c3 ⟨by have := z.1; omega, z.2⟩)]
      · rw [i2 i j hi hj, hcp, hcp, if_neg (show ¬ (80 * s + 0 ≤ 80 * r + j ∧ 80 * r + j < 80 * s + 0 + X.2 r) from fun z => by have := hc.2; omega)]
        by_cases c2 : i = s
        · subst c2
          rw [if_neg (fun z => by have := z.1; omega)]
          by_cases c4 : j < X.2 r
          · rw [if_pos (by omega), if_pos ⟨Nat.le_refl _, hc.1, c4⟩]
            congr 1; omega
          · rw [if_neg (by omega), if_neg (fun z => c4 z.2.2)]
        · rw [if_neg (show ¬ (80 * s + 0 ≤ 80 * i + j ∧ 80 * i + j < 80 * s + 0 + X.2 r) from fun z => by omega)]
          by_cases c3 : s ≤ i ∧ k_lk (some r) D i = true ∧ j < X.2 r
          · rw [if_pos c3, if_pos ⟨by have := c3.1; omega, c3.2⟩]
          · rw [if_neg c3, if_neg (fun z => c3 ⟨by have := z.1; omega, z.2⟩)]
    · rw [if_neg c]
      have hc : k_lk (some r) D s = true → s = r := by simpa [s2c] using c
      obtain ⟨i1, i2⟩ := ih (s + 1) X (by omega) hr h2
      refine ⟨fun i hi => ?_, fun i j hi hj => ?_⟩
      · rw [i1 i hi]
        by_cases c3 : s ≤ i ∧ k_lk (some r) D i = true
        · rw [if_pos c3]
          by_cases c4 : i = s
          · have := hc (by rw [← c4]; exact c3.2)
            rw [if_neg (fun z => by have := z.1; omega), c4, this]
          · rw [if_pos ⟨by have := c3.1; omega, c3.2⟩]
        · rw [if_neg c3, if_neg (fun z => c3 ⟨by have := z.1; omega, z.2⟩)]
      · rw [i2 i j hi hj]
        by_cases c3 : s ≤ i ∧ k_lk (some r) D i = true ∧ j < X.2 r
        · rw [if_pos c3]
          by_cases c4 : i = s
          · have := hc (by rw [← c4]; exact c3.2.1)
            rw [if_neg (fun z => by have := z.1; omega), c4, this]
          · rw [if_pos ⟨by have := c3.1; omega, c3.2⟩]
        · rw [if_neg c3, if_neg (fun z => c3 ⟨by have := z.1; omega, z.2⟩)]
theorem agF_at {ld : Option Nat} {D : mD} {ep : Nat} : ∀ (g s : Nat) (f : Nat → Nat), s + g = 3 → ∀ i, i < 3 → agF ld D ep g s f i = if s ≤ i ∧ k_lk ld D i = true then ep else f i := by
  intro g
  induction g with
  | zero => intro s f h1 i hi; exact (if_neg (fun z => by have := z.1; omega)).symm
  | succ g ih =>
    intro s f h1 i hi
    have e : agF ld D ep (g + 1) s f = agF ld D ep g (s + 1) (if k_lk ld D s = true then va_up f s ep else f) := rfl
    rw [e, ih (s + 1) _ (by omega) i hi]
    by_cases c2 : i = s
    · subst c2
      rw [if_neg (fun z => by have := z.1; omega)]
      by_cases c : k_lk ld D i = true
      · rw [if_pos c, up_s, if_pos ⟨Nat.le_refl _, c⟩]
      · rw [if_neg c, if_neg (fun z => c z.2)]
    · have e2 : (if k_lk ld D s = true then va_up f s ep else f) i = f i := by
        split
        · exact up_n c2
        · rfl
      rw [e2]
      by_cases c3 : s ≤ i ∧ k_lk ld D i = true
      · rw [if_pos c3, if_pos ⟨by have := c3.1; omega, c3.2⟩]
      · rw [if_neg c3, if_neg (fun z => c3 ⟨by have := z.1; omega, z.2⟩)]
/-- a server in both -/
def VR (E : Nat → zE) (L : mL) (S : mS) (v : zV) (i : Nat) : Prop := v_ln v = S.1 i ∧ v_ap v = S.2.1 i ∧ v_ag v = S.2.2.1 i ∧ v_up v = (!S.2.2.2.1 i) ∧ v_al v = S.2.2.2.2 i ∧ ∀ j, j < S.1 i → eW (E ((v_lf v j).getD 0)) ∧ eL L (80 * i + j) = eC (E ((v_lf v j).getD 0))
theorem on_k {R : zR} {D : mD} {i : Nat} (h1 : v_up (z_V R i) = (!D.1 i)) (h2 : v_al (z_V R i) = D.2 i) : z_on R i = k_ft D i := by unfold z_on k_ft; rw [h1, h2]
theorem lk_k {R : zR} {D : mD} {ld : Option Nat} (h0 : z_ld R = ld) (hk : ∀ k, ld = some k → k < 3) (h : ∀ i, i < 3 → v_up (z_V R i) = (!D.1 i) ∧ v_al (z_V R i) = D.2 i) {i : Nat} (hi : i < 3) : z_lk R i = k_lk ld D i := by
  subst h0
  unfold z_lk k_lk
  cases e : z_ld R with
  | none => rfl
  | some k =>
    have hk3 := hk k e
    show (z_on R k && z_on R i) = _
    rw [on_k (h k hk3).1 (h k hk3).2, on_k (h i hi).1 (h i hi).2]
theorem cntB_c {f g : Nat → Bool} : ∀ {n : Nat}, (∀ i, i < n → f i = g i) → cntB f n = cntB g n := by
  intro n
  induction n with
  | zero => intro _; rfl
  | succ n ih => intro h; unfold cntB; rw [ih (fun i hi => h i (by omega)), h n (by omega)]
theorem qr_k {R : zR} {D : mD} {ld : Option Nat} (h0 : z_ld R = ld) (hk : ∀ k, ld = some k → k < 3) (h : ∀ i, i < 3 → v_up (z_V R i) = (!D.1 i) ∧ v_al (z_V R i) = D.2 i) : z_qr R = k_qr ld D := by
  unfold z_qr k_qr
  rw [cntB_c (fun i hi => lk_k h0 hk h hi)]
  rfl
/-- what spreading leaves -/
def Kp (R R' : zR) : Prop := (z_ld R' = z_ld R ∧ z_ep R' = z_ep R ∧ z_tm R' = z_tm R ∧ z_P R' = z_P R) ∧ ∀ j, (z_S R' j).2 = (z_S R j).2 ∧ (s_op (z_S R j) = false → z_S R' j = z_S R j)
theorem Kp_r (R : zR) : Kp R R := ⟨⟨rfl, rfl, rfl, rfl⟩, fun j => ⟨rfl, fun _ => rfl⟩⟩
theorem Kp_t {A B C : zR} (h : Kp A B) (k : Kp B C) : Kp A C := by
  obtain ⟨⟨h1, h2, h3, h4⟩, h5⟩ := h
  obtain ⟨⟨k1, k2, k3, k4⟩, k5⟩ := k
  refine ⟨⟨k1.trans h1, k2.trans h2, k3.trans h3, k4.trans h4⟩, fun j => ⟨(k5 j).1.trans (h5 j).1, fun z => ?_⟩⟩
  have e := (h5 j).2 z
  exact ((k5 j).2 (by rw [e]; exact z)).trans e
theorem Kp_ap1 (e : zE) (i : Nat) (R : zR) : Kp R (ap1 e i R) := ⟨hrA_0 e i R 4, fun j => ⟨hrA_S2 e i R 4 j, fun z => (hrA_S e i R 4 j).trans (if_neg (fun y => by rw [z] at y; exact nomatch y.2.1))⟩⟩
theorem Kp_apF (E : Nat → zE) (i : Nat) (R : zR) : ∀ n, Kp R (apF E i R n) := by
  intro n
  induction n with
  | zero => exact Kp_r R
  | succ n ih => exact Kp_t ih (Kp_ap1 _ i _)
theorem Kp_sV (R : zR) (i : Nat) (v : zV) : Kp R (z_sV R i v) := Kp_r R
theorem Kp_sp1 (E : Nat → zE) (b : Bool) (k i : Nat) (R : zR) : Kp R (sp1 E b k i R) := by
  unfold sp1
  split
  · split
    · exact Kp_t (Kp_sV R i _) (Kp_t (Kp_apF E i _ _) (Kp_sV _ i _))
    · exact Kp_sV R i _
  · exact Kp_r R
theorem Kp_spK (E : Nat → zE) (b : Bool) (k : Nat) (R : zR) : ∀ i, Kp R (spK E b k R i) := by
  intro i
  induction i with
  | zero => exact Kp_r R
  | succ i ih => exact Kp_t ih (Kp_sp1 E b k i _)
theorem Kp_sp (E : Nat → zE) (R : zR) : Kp R (spR E R) := by
  unfold spR
  split
  · exact Kp_r R
  · exact Kp_spK E _ _ R 3
