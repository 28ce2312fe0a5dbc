/-! THE MODEL: copyEntry, spread, propose, planned, end, look -/
abbrev mD : Type := (Nat → Bool) × (Nat → Bool)
def k_ft (D : mD) (i : Nat) : Bool := !(D.1 i) && !(D.2 i)
def k_lk (ld : Option Nat) (D : mD) (i : Nat) : Bool := match ld with
  | none => false
  | some k => k_ft D k && k_ft D i
def k_qr (ld : Option Nat) (D : mD) : Bool := decide (1 < cntB (k_lk ld D) 3)
theorem m_lk_k {M : mR} : m_lk M = k_lk M.1.2.1 M.2.2.1.2.2.2 := rfl
theorem m_qr_k {M : mR} : m_qr M = k_qr M.1.2.1 M.2.2.1.2.2.2 := rfl
theorem k_qr_none {D : mD} : k_qr none D = false := rfl
/-- an ENTRY as the model keeps it -/
def eL (L : mL) (i : Nat) : Nat × Nat × Int32 × Int32 := (L.1 i, L.2.1 i, L.2.2.1 i, L.2.2.2 i)
def sE (L : mL) (t : Nat) (x : Nat × Nat × Int32 × Int32) : mL := (va_up L.1 t x.1, va_up L.2.1 t x.2.1, upd L.2.2.1 t x.2.2.1, upd L.2.2.2 t x.2.2.2)
theorem eL_sE (L : mL) (t : Nat) (x : Nat × Nat × Int32 × Int32) (i : Nat) : eL (sE L t x) i = if i = t then x else eL L i := by
  by_cases c : i = t
  · subst c; simp [eL, sE, va_up, upd]
  · simp [eL, sE, va_up, upd, c]
def cpE (f t : Nat) (L : mL) : mL := sE L t (eL L f)
def cpF (r s : Nat) : Nat → Nat → mL → mL
  | 0, _, L => L
  | g + 1, k, L => cpF r s g (k + 1) (cpE (80 * r + k) (80 * s + k) L)
theorem cpF_at {r s : Nat} (hrs : s ≠ r) : ∀ (g k : Nat) (L : mL), k + g ≤ 80 → ∀ i, eL (cpF r s g k L) i = if 80 * s + k ≤ i ∧ i < 80 * s + k + g then eL L (80 * r + (i - 80 * s)) else eL L i := by
  intro g
  induction g with
  | zero => intro k L _ i; rw [if_neg (by omega)]; rfl
  | succ g ih =>
    intro k L hk i
    show eL (cpF r s g (k + 1) (cpE (80 * r + k) (80 * s + k) L)) i = _
    rw [ih (k + 1) _ (by omega) i]
    unfold cpE
    rw [eL_sE, eL_sE]
    by_cases c : 80 * s + (k + 1) ≤ i ∧ i < 80 * s + (k + 1) + g
    · rw [if_pos c, if_neg (by omega), if_pos (by omega)]
    · rw [if_neg c]
      by_cases c2 : i = 80 * s + k
      · subst c2
        rw [if_pos rfl, if_pos (by omega), Nat.add_sub_cancel_left]
      · rw [if_neg c2, if_neg (by omega)]
def mEx (x : Nat × Nat × Int32 × Int32) : Prop := x.1 ≤ 4 ∧ x.2.1 < 259 ∧ (x.1 = 1 → 1 ≤ x.2.1)
/-- what holds of the model's state -/
def mLo (n : Nat) (L : mL) (S : mS) : Prop := ∀ s, s < 3 → S.1 s ≤ n ∧ S.2.1 s ≤ n ∧ ∀ k, (k < S.1 s ∨ k < S.2.1 s) → mEx (eL L (80 * s + k))
/-- SPREAD: ages, logs, what is applied -/
def agF (ld : Option Nat) (D : mD) (ep : Nat) : Nat → Nat → (Nat → Nat) → (Nat → Nat)
  | 0, _, f => f
  | g + 1, k, f => agF ld D ep g (k + 1) (if k_lk ld D k = true then va_up f k ep else f)
def s2c (r : Nat) (D : mD) (s : Nat) : Bool := k_lk (some r) D s && !decide (s = r)
def s2F (r : Nat) (D : mD) : Nat → Nat → mL × (Nat → Nat) → mL × (Nat → Nat)
  | 0, _, X => X
  | g + 1, s, X => s2F r D g (s + 1) (if s2c r D s = true then (cpF r s (X.2 r) 0 X.1, va_up X.2 s (X.2 r)) else X)
def dnF (L : mL) (C : mC) (s : Nat) : Nat → Nat → mW × mT → mW × mT
  | 0, _, X => X
  | g + 1, k, X => dnF L C s g (k + 1) (dnW (some s) C (L.1 (80 * s + k)) (L.2.1 (80 * s + k)) (L.2.2.2 (80 * s + k)) X.2 X.1, dnL L (80 * s + k) X.2)
def s31 (L : mL) (C : mC) (ln : Nat → Nat) (s : Nat) (X : (Nat → Nat) × mW × mT) : (Nat → Nat) × mW × mT := (va_up X.1 s (ln s), dnF L C s (ln s - X.1 s) (X.1 s) (X.2.1, grT L s (X.1 s) X.2.2))
def s3F (L : mL) (C : mC) (ln : Nat → Nat) (r : Nat) (D : mD) : Nat → Nat → (Nat → Nat) × mW × mT → (Nat → Nat) × mW × mT
  | 0, _, X => X
  | g + 1, s, X => s3F L C ln r D g (s + 1) (if k_lk (some r) D s = true then s31 L C ln s X else X)
def spX (r : Nat) (D : mD) (C : mC) (Y : mL × (Nat → Nat)) (X : (Nat → Nat) × mW × mT) : (Nat → Nat) × mW × mT := if k_qr (some r) D = true then s3F Y.1 C Y.2 r D 3 0 X else X
def spM (M : mR) : mR := match M with
  | (A, L, S, C, W, T) => match A.2.1 with
    | none => (A, L, S, C, W, T)
    | some r => (A, (s2F r S.2.2.2 3 0 (L, S.1)).1, ((s2F r S.2.2.2 3 0 (L, S.1)).2, (spX r S.2.2.2 C (s2F r S.2.2.2 3 0 (L, S.1)) (S.2.1, W, T)).1, agF (some r) S.2.2.2 A.2.2.1 3 0 S.2.2.1, S.2.2.2), C, (spX r S.2.2.2 C (s2F r S.2.2.2 3 0 (L, S.1)) (S.2.1, W, T)).2.1, (spX r S.2.2.2 C (s2F r S.2.2.2 3 0 (L, S.1)) (S.2.1, W, T)).2.2)
theorem dnF_o {L : mL} {C : mC} {s : Nat} : ∀ {g k : Nat} {X : mW × mT}, mWo X.1 → mWo (dnF L C s g k X).1 := by
  intro g
  induction g with
  | zero => intro k X h; exact h
  | succ g ih => intro k X h; exact ih (dnW_o h)
theorem s2_Lo {n r : Nat} {D : mD} {ap : Nat → Nat} (hn : n ≤ 80) (hr : r < 3) {s : Nat} (hs : s < 3) {X : mL × (Nat → Nat)} {Z : (Nat → Nat) × mD} (h : mLo n X.1 (X.2, ap, Z)) : mLo n (if s2c r D s = true then (cpF r s (X.2 r) 0 X.1, va_up X.2 s (X.2 r)) else X).1 ((if s2c r D s = true then (cpF r s (X.2 r) 0 X.1, va_up X.2 s (X.2 r)) else X).2, ap, Z) := by
  split
  · next c =>
    have hsr : s ≠ r := by intro e; subst e; simp [s2c] at c
    intro j hj
    have h1 := h j hj
    have h2 := h r hr
    have hl : X.2 r ≤ 80 := Nat.le_trans h2.1 hn
    show va_up X.2 s (X.2 r) j ≤ n ∧ ap j ≤ n ∧ _
    refine ⟨?_, h1.2.1, fun k hk => ?_⟩
    · by_cases e : j = s
      · subst e; simp only [va_up, if_true]; exact h2.1
      · simp only [va_up, if_neg e]; exact h1.1
    · have hk80 : k < 80 := by
        have h3 : ap j ≤ n := h1.2.1
        have h4 : va_up X.2 s (X.2 r) j ≤ n := by
          by_cases e : j = s
          · subst e; simp only [va_up, if_true]; exact h2.1
          · simp only [va_up, if_neg e]; exact h1.1
        rcases hk with hk | hk
        · exact Nat.lt_of_lt_of_le hk (Nat.le_trans h4 hn)
        · exact Nat.lt_of_lt_of_le hk (Nat.le_trans h3 hn)
      show mEx (eL (cpF r s (X.2 r) 0 X.1) (80 * j + k))
      rw [cpF_at hsr _ _ _ (by omega)]
      by_cases e : j = s
      · subst e
        by_cases e2 : k < X.2 r
        · rw [if_pos (by omega), Nat.add_sub_cancel_left]
          exact h2.2.2 k (Or.inl e2)
        · rw [if_neg (by omega)]
          refine h1.2.2 k ?_
          rcases hk with hk | hk
          · exfalso
            have hk' : k < va_up X.2 j (X.2 r) j := hk
            simp only [va_up, if_true] at hk'
            exact e2 hk'
          · exact Or.inr hk
      · rw [if_neg (by omega)]
        refine h1.2.2 k ?_
        rcases hk with hk | hk
        · left
          have hk' : k < va_up X.2 s (X.2 r) j := hk
          simp only [va_up, if_neg e] at hk'
          exact hk'
        · exact Or.inr hk
  · exact h
theorem s2F_Lo {n r : Nat} {D : mD} {ap : Nat → Nat} {Z : (Nat → Nat) × mD} (hn : n ≤ 80) (hr : r < 3) : ∀ {g s : Nat} {X : mL × (Nat → Nat)}, s + g ≤ 3 → mLo n X.1 (X.2, ap, Z) → mLo n (s2F r D g s X).1 ((s2F r D g s X).2, ap, Z) := by
  intro g
  induction g with
  | zero => intro s X _ h; exact h
  | succ g ih => intro s X hs h; exact ih (by omega) (s2_Lo hn hr (by omega) h)
theorem s3F_o {L : mL} {C : mC} {ln : Nat → Nat} {r : Nat} {D : mD} {n : Nat} {Z : (Nat → Nat) × mD} : ∀ {g s : Nat} {X : (Nat → Nat) × mW × mT}, mWo X.2.1 ∧ mLo n L (ln, X.1, Z) → mWo (s3F L C ln r D g s X).2.1 ∧ mLo n L (ln, (s3F L C ln r D g s X).1, Z) := by
  intro g
  induction g with
  | zero => intro s X h; exact h
  | succ g ih =>
    intro s X h
    refine ih ?_
    split
    · refine ⟨dnF_o h.1, fun j hj => ?_⟩
      have h1 := h.2 j hj
      refine ⟨h1.1, ?_, fun k hk => h1.2.2 k ?_⟩
      · show va_up X.1 s (ln s) j ≤ n
        by_cases e : j = s
        · subst e; simp only [va_up, if_true]; exact h1.1
        · simp only [va_up, if_neg e]; exact h1.2.1
      · rcases hk with hk | hk
        · exact Or.inl hk
        · have hk' : k < va_up X.1 s (ln s) j := hk
          by_cases e : j = s
          · subst e; simp only [va_up, if_true] at hk'; exact Or.inl hk'
          · simp only [va_up, if_neg e] at hk'; exact Or.inr hk'
    · exact h
/-- PROPOSE, PLANNED -/
def prM (x : Nat × Nat × Int32 × Int32) (M : mR) : mR := match M with
  | (A, L, S, C, W, T) => match A.2.1 with
    | none => (A, L, S, C, W, T)
    | some r => spM (A, sE L (80 * r + S.1 r) x, (va_up S.1 r (S.1 r + 1), S.2), C, W, T)
def pnM (M : mR) : mR := match M with
  | (A, L, S, C, W, T) => match A.2.1 with
    | none => (A, L, S, C, W, T)
    | some r => (A, L, S, C, W, grT L r (S.1 r) T)
def owT (T : mT) (s : Int32) : Nat := cntB (fun q => decide (1 ≤ q ∧ T.1 q = true ∧ T.2.2.2.2 q = s)) 259
def m_nd (s : Nat) (M : mR) : mR := (M.1, M.2.1, M.2.2.1, (M.2.2.2.1.1, va_up M.2.2.2.1.2.1 s false, M.2.2.2.1.2.2), M.2.2.2.2)
def en1 (s : Nat) (M : mR) : mR := if M.2.2.2.1.2.1 s = true ∧ k_qr M.1.2.1 M.2.2.1.2.2.2 = true then if 0 < owT (pnM M).2.2.2.2.2 (nI s) then prM (4, 0, nI 0, nI s) (m_nd s (pnM M)) else m_nd s (pnM M) else M
def enF : Nat → Nat → mR → mR
  | 0, _, M => M
  | g + 1, s, M => enF g (s + 1) (en1 s M)
/-- what holds of the model's state, with n the greatest length -/
def mOK (n : Nat) (M : mR) : Prop := (∀ k, M.1.2.1 = some k → k < 3) ∧ mCo M.2.2.2.1 ∧ mWo M.2.2.2.2.1 ∧ mLo n M.2.1 M.2.2.1
theorem mLo_up {n m : Nat} {L : mL} {S : mS} (h : mLo n L S) (hm : n ≤ m) : mLo m L S := fun s hs => ⟨Nat.le_trans (h s hs).1 hm, Nat.le_trans (h s hs).2.1 hm, (h s hs).2.2⟩
theorem mLo_pr {n r : Nat} {L : mL} {S : mS} {x : Nat × Nat × Int32 × Int32} (h : mLo n L S) (hn : n < 80) (hr : r < 3) (hx : mEx x) : mLo (n + 1) (sE L (80 * r + S.1 r) x) (va_up S.1 r (S.1 r + 1), S.2) := by
  intro j hj
  have h1 := h j hj
  have h2 := h r hr
  have e3 : va_up S.1 r (S.1 r + 1) j ≤ n + 1 := by
    by_cases e : j = r
    · subst e; simp only [va_up, if_true]; omega
    · simp only [va_up, if_neg e]; omega
  refine ⟨e3, by have := h1.2.1; show S.2.1 j ≤ n + 1; omega, fun k hk => ?_⟩
  have hk80 : k < 80 := by
    have := h1.2.1
    rcases hk with hk | hk
    · have hk' : k < va_up S.1 r (S.1 r + 1) j := hk
      omega
    · have hk' : k < S.2.1 j := hk
      omega
  rw [eL_sE]
  split
  · exact hx
  · next c =>
    refine h1.2.2 k ?_
    rcases hk with hk | hk
    · have hk' : k < va_up S.1 r (S.1 r + 1) j := hk
      by_cases e : j = r
      · subst e
        simp only [va_up, if_true] at hk'
        left; omega
      · simp only [va_up, if_neg e] at hk'
        exact Or.inl hk'
    · exact Or.inr hk
theorem spM_ok {n : Nat} {M : mR} (h : mOK n M) (hn : n ≤ 80) : mOK n (spM M) ∧ (spM M).1 = M.1 ∧ (spM M).2.2.2.1 = M.2.2.2.1 ∧ (spM M).2.2.1.2.2.2 = M.2.2.1.2.2.2 := by
  obtain ⟨A, L, S, C, W, T⟩ := M
  cases hl : A.2.1 with
  | none =>
    have e : spM (A, L, S, C, W, T) = (A, L, S, C, W, T) := by unfold spM; simp only [hl]
    rw [e]
    exact ⟨h, rfl, rfl, rfl⟩
  | some r =>
    have hr := h.1 r hl
    have e : spM (A, L, S, C, W, T) = (A, (s2F r S.2.2.2 3 0 (L, S.1)).1, ((s2F r S.2.2.2 3 0 (L, S.1)).2, (spX r S.2.2.2 C (s2F r S.2.2.2 3 0 (L, S.1)) (S.2.1, W, T)).1, agF (some r) S.2.2.2 A.2.2.1 3 0 S.2.2.1, S.2.2.2), C, (spX r S.2.2.2 C (s2F r S.2.2.2 3 0 (L, S.1)) (S.2.1, W, T)).2.1, (spX r S.2.2.2 C (s2F r S.2.2.2 3 0 (L, S.1)) (S.2.1, W, T)).2.2) := by unfold spM; simp only [hl]
    rw [e]
    have h2 := s2F_Lo (D := S.2.2.2) (ap := S.2.1) (Z := S.2.2) hn hr (g := 3) (s := 0) (X := (L, S.1)) (by omega) h.2.2.2
    refine ⟨⟨h.1, h.2.1, ?_⟩, rfl, rfl, rfl⟩
    unfold spX
    split
    · have h3 := s3F_o (L := (s2F r S.2.2.2 3 0 (L, S.1)).1) (C := C) (r := r) (D := S.2.2.2) (n := n) (Z := S.2.2) (g := 3) (s := 0) (X := (S.2.1, W, T)) ⟨h.2.2.1, h2⟩
      exact ⟨h3.1, h3.2⟩
    · exact ⟨h.2.2.1, h2⟩
theorem prM_ok {n : Nat} {M : mR} {x : Nat × Nat × Int32 × Int32} (h : mOK n M) (hn : n < 80) (hx : mEx x) : mOK (n + 1) (prM x M) ∧ (prM x M).1 = M.1 ∧ (prM x M).2.2.2.1 = M.2.2.2.1 ∧ (prM x M).2.2.1.2.2.2 = M.2.2.1.2.2.2 := by
  obtain ⟨A, L, S, C, W, T⟩ := M
  cases hl : A.2.1 with
  | none =>
    have e : prM x (A, L, S, C, W, T) = (A, L, S, C, W, T) := by unfold prM; simp only [hl]
    rw [e]
    exact ⟨⟨h.1, h.2.1, h.2.2.1, mLo_up h.2.2.2 (Nat.le_succ n)⟩, rfl, rfl, rfl⟩
  | some r =>
    have e : prM x (A, L, S, C, W, T) = spM (A, sE L (80 * r + S.1 r) x, (va_up S.1 r (S.1 r + 1), S.2), C, W, T) := by unfold prM; simp only [hl]
    rw [e]
    exact spM_ok (M := (A, sE L (80 * r + S.1 r) x, (va_up S.1 r (S.1 r + 1), S.2), C, W, T)) ⟨h.1, h.2.1, h.2.2.1, mLo_pr h.2.2.2 hn (h.1 r hl) hx⟩ hn
theorem pnM_ok {n : Nat} {M : mR} (h : mOK n M) : mOK n (pnM M) ∧ (pnM M).1 = M.1 ∧ (pnM M).2.2.2.1 = M.2.2.2.1 ∧ (pnM M).2.2.1 = M.2.2.1 := by
  obtain ⟨A, L, S, C, W, T⟩ := M
  cases hl : A.2.1 with
  | none =>
    have e : pnM (A, L, S, C, W, T) = (A, L, S, C, W, T) := by unfold pnM; simp only [hl]
    rw [e]
    exact ⟨h, rfl, rfl, rfl⟩
  | some r =>
    have e : pnM (A, L, S, C, W, T) = (A, L, S, C, W, grT L r (S.1 r) T) := by unfold pnM; simp only [hl]
    rw [e]
    exact ⟨h, rfl, rfl, rfl⟩
theorem m_nd_ok {n s : Nat} {M : mR} (h : mOK n M) : mOK n (m_nd s M) := h
theorem en1_ok {n s : Nat} {M : mR} (h : mOK n M) (hn : n < 80) : mOK (n + 1) (en1 s M) ∧ (en1 s M).1 = M.1 := by
  unfold en1
  have hp := pnM_ok h
  split
  · split
    · have := prM_ok (x := (4, 0, nI 0, nI s)) (m_nd_ok (s := s) hp.1) hn ⟨Nat.le_refl _, show (0 : Nat) < 259 by decide, fun z => absurd (show (4 : Nat) = 1 from z) (by decide)⟩
      exact ⟨this.1, this.2.1.trans hp.2.1⟩
    · exact ⟨⟨hp.1.1, hp.1.2.1, hp.1.2.2.1, mLo_up hp.1.2.2.2 (Nat.le_succ n)⟩, hp.2.1⟩
  · exact ⟨⟨h.1, h.2.1, h.2.2.1, mLo_up h.2.2.2 (Nat.le_succ n)⟩, rfl⟩
