/-! APPLYING: the class's and the model's -/
theorem hrA_S (e : zE) (i : Nat) (R : zR) : ∀ k j, z_S (hrA e i R k) j = if j < k ∧ s_op (z_S R j) = true ∧ s_sv (z_S R j) = i then (hearR e (z_T R i) (s_X (z_S R j)), (z_S R j).2) else z_S R j := by
  intro k
  induction k with
  | zero => intro j; rw [if_neg (by omega)]; rfl
  | succ k ih =>
    intro j
    have hk := ih k
    rw [if_neg (by omega)] at hk
    have hT : z_T (hrA e i R k) i = z_T R i := congrFun (hrA_T e i R k) i
    unfold hrA
    rw [hk, hT]
    by_cases c : (s_op (z_S R k) && decide (s_sv (z_S R k) = i)) = true
    · rw [if_pos c]
      simp only [Bool.and_eq_true, decide_eq_true_eq] at c
      by_cases e1 : j = k
      · subst e1
        rw [if_pos ⟨by omega, c.1, c.2⟩]
        show va_up (z_S (hrA e i R j)) j _ j = _
        rw [up_s]
      · show va_up (z_S (hrA e i R k)) k _ j = _
        rw [up_n e1, ih j]
        by_cases c2 : j < k ∧ s_op (z_S R j) = true ∧ s_sv (z_S R j) = i
        · rw [if_pos c2, if_pos ⟨by omega, c2.2⟩]
        · rw [if_neg c2, if_neg (fun z => c2 ⟨by omega, z.2⟩)]
    · rw [if_neg c, ih j]
      simp only [Bool.and_eq_true, decide_eq_true_eq] at c
      by_cases c2 : j < k ∧ s_op (z_S R j) = true ∧ s_sv (z_S R j) = i
      · rw [if_pos c2, if_pos ⟨by omega, c2.2⟩]
      · rw [if_neg c2, if_neg (fun z => by
          by_cases e1 : j = k
          · subst e1; exact c z.2
          · exact c2 ⟨by omega, z.2⟩)]
theorem hrA_S2 (e : zE) (i : Nat) (R : zR) (k j : Nat) : (z_S (hrA e i R k) j).2 = (z_S R j).2 := by
  rw [hrA_S]
  split <;> rfl
theorem apF_S2 (E : Nat → zE) (i : Nat) (R : zR) : ∀ n j, (z_S (apF E i R n) j).2 = (z_S R j).2 := by
  intro n
  induction n with
  | zero => intro j; rfl
  | succ n ih => intro j; exact (hrA_S2 _ i _ 4 j).trans (ih j)
theorem apF_Tn (E : Nat → zE) (i : Nat) (R : zR) : ∀ n j, j ≠ i → z_T (apF E i R n) j = z_T R j := by
  intro n
  induction n with
  | zero => intro j _; rfl
  | succ n ih =>
    intro j hj
    show va_up (z_T (hrA _ i (apF E i R n) 4)) i _ j = _
    rw [up_n hj, hrA_T, ih j hj]
/-- sessions in both: all but DUE -/
def SR (R : zR) (C : mC) (W : mW) : Prop := ∀ j, j < 4 → s_op (z_S R j) = C.1 j ∧ s_sv (z_S R j) = C.2.2.1 j ∧ s_to (z_S R j) = C.2.2.2.1 j ∧ s_he (z_S R j) = C.2.2.2.2 j ∧ WR (s_X (z_S R j)) W j
theorem SR_hear {R : zR} {C : mC} {W : mW} {e : zE} {i n : Nat} {T : mT} (h : SR R C W) (hT : TR n (z_T R i) T) (he : eW e) (hW : mWo W) : SR (ap1 e i R) C (dnV (some i) C (eC e) T W) := by
  intro j hj
  obtain ⟨h1, h2, h3, h4, h5⟩ := h j hj
  have e2 := hrA_S2 e i R 4 j
  have e1 := hrA_S e i R 4 j
  have h9 := WR_hear (srv := some i) (C := C) hT he hj hW h5
  have hs : z_S (ap1 e i R) j = z_S (hrA e i R 4) j := rfl
  rw [hs]
  refine ⟨(congrArg (fun x => x.1) e2).trans h1, (congrArg (fun x => x.2.2.1) e2).trans h2, (congrArg (fun x => x.2.2.2.1) e2).trans h3, (congrArg (fun x => x.2.2.2.2) e2).trans h4, ?_⟩
  rw [e1]
  by_cases c : C.1 j = true ∧ some i = some (C.2.2.1 j)
  · rw [if_pos c] at h9
    rw [if_pos ⟨hj, h1.trans c.1, h2.trans (Option.some.inj c.2).symm⟩]
    exact h9
  · rw [if_neg c] at h9
    rw [if_neg (fun z => c ⟨h1.symm.trans z.2.1, by rw [← h2, z.2.2]⟩)]
    exact h9
theorem grF_s (L : mL) (b : Nat) : ∀ (g k : Nat) (T : mT), grF L b (g + 1) k T = dnX (eL L (80 * b + (k + g))) (grF L b g k T) := by
  intro g
  induction g with
  | zero => intro k T; rfl
  | succ g ih =>
    intro k T
    show grF L b (g + 1) (k + 1) _ = _
    rw [ih (k + 1), show k + 1 + g = k + (g + 1) by omega]
    rfl
theorem grT_s (L : mL) (b n : Nat) (T : mT) : grT L b (n + 1) T = dnX (eL L (80 * b + n)) (grT L b n T) := by
  unfold grT
  rw [grF_s, Nat.zero_add]
theorem grT_congr {L L' : mL} {b b' : Nat} : ∀ {n : Nat}, (∀ j, j < n → eL L (80 * b + j) = eL L' (80 * b' + j)) → ∀ T, grT L b n T = grT L' b' n T := by
  intro n
  induction n with
  | zero => intro _ T; rfl
  | succ n ih =>
    intro h T
    rw [grT_s, grT_s, h n (by omega), ih (fun j hj => h j (by omega)) T]
/-- the class's tree t is what the first n of b's LOG make -/
def GT (t : zT) (L : mL) (b n : Nat) : Prop := ∀ T, TR n t (grT L b n T)
theorem GT_congr {t : zT} {L L' : mL} {b b' n : Nat} (h : GT t L b n) (e : ∀ j, j < n → eL L (80 * b + j) = eL L' (80 * b' + j)) : GT t L' b' n := fun T => by rw [← grT_congr e T]; exact h T
theorem GT_s {t : zT} {L : mL} {b n : Nat} {e : zE} (h : GT t L b n) (hn : n + 1 < 2 ^ 31) (he : eW e) (hL : eL L (80 * b + n) = eC e) (hs : e.1 = 1 → ∀ T, (grT L b n T).1 e.2.1 = true) : GT (playR e t) L b (n + 1) := fun T => by
  rw [grT_s, hL]
  exact TR_step (h T) hn he (fun z => hs z T)
/-- the first n of b's LOG: each SET finds its node -/
def LV (L : mL) (b n : Nat) : Prop := ∀ j, j < n → (eL L (80 * b + j)).1 = 2 → ∀ T, (grT L b j T).1 (eL L (80 * b + j)).2.1 = true
theorem LV_congr {L L' : mL} {b b' n : Nat} (h : LV L b n) (e : ∀ j, j < n → eL L (80 * b + j) = eL L' (80 * b' + j)) : LV L' b' n := by
  intro j hj hk T
  rw [← e j hj] at hk ⊢
  rw [← grT_congr (fun i hi => e i (by omega)) T]
  exact h j hj hk T
theorem eC_1 {e : zE} (he : eW e) : e.1 = 1 ↔ (eC e).1 = 2 := by
  obtain ⟨kd, p, d, o, sq⟩ := e
  have := he.1.1
  dsimp only at this
  rcases (by omega : kd = 0 ∨ kd = 1 ∨ kd = 2 ∨ kd = 3) with rfl | rfl | rfl | rfl
  · cases sq
    · exact ⟨fun z => absurd (show (0 : Nat) = 1 from z) (by decide), fun z => absurd (show (0 : Nat) = 2 from z) (by decide)⟩
    · exact ⟨fun z => absurd (show (0 : Nat) = 1 from z) (by decide), fun z => absurd (show (1 : Nat) = 2 from z) (by decide)⟩
  · exact ⟨fun _ => rfl, fun _ => rfl⟩
  · exact ⟨fun z => absurd (show (2 : Nat) = 1 from z) (by decide), fun z => absurd (show (3 : Nat) = 2 from z) (by decide)⟩
  · exact ⟨fun z => absurd (show (3 : Nat) = 1 from z) (by decide), fun z => absurd (show (4 : Nat) = 2 from z) (by decide)⟩
theorem dnF_s (L : mL) (C : mC) (s : Nat) : ∀ (g k : Nat) (X : mW × mT), dnF L C s (g + 1) k X = (dnV (some s) C (eL L (80 * s + (k + g))) (dnF L C s g k X).2 (dnF L C s g k X).1, dnX (eL L (80 * s + (k + g))) (dnF L C s g k X).2) := by
  intro g
  induction g with
  | zero => intro k X; rfl
  | succ g ih =>
    intro k X
    show dnF L C s (g + 1) (k + 1) _ = _
    rw [ih (k + 1), show k + 1 + g = k + (g + 1) by omega]
    rfl
theorem dnF_T (L : mL) (C : mC) (s k : Nat) (W : mW) (T : mT) : ∀ g, (dnF L C s g k (W, grT L s k T)).2 = grT L s (k + g) T := by
  intro g
  induction g with
  | zero => rfl
  | succ g ih =>
    rw [dnF_s]
    show dnX _ (dnF L C s g k (W, grT L s k T)).2 = _
    rw [ih, show k + (g + 1) = k + g + 1 from rfl, grT_s]
/-- server i applies n entries -/
theorem AP {E : Nat → zE} {i : Nat} {R : zR} {L : mL} {C : mC} {W : mW} {T : mT} (hS : SR R C W) (hW : mWo W) (hG : GT (z_T R i) L i (v_ap (z_V R i))) : ∀ n, v_ap (z_V R i) + n < 1000 → (∀ j, j < n → eW (E ((v_lf (z_V R i) (v_ap (z_V R i) + j)).getD 0)) ∧ eL L (80 * i + (v_ap (z_V R i) + j)) = eC (E ((v_lf (z_V R i) (v_ap (z_V R i) + j)).getD 0))) → LV L i (v_ap (z_V R i) + n) → SR (apF E i R n) C (dnF L C i n (v_ap (z_V R i)) (W, grT L i (v_ap (z_V R i)) T)).1 ∧ mWo (dnF L C i n (v_ap (z_V R i)) (W, grT L i (v_ap (z_V R i)) T)).1 ∧ GT (z_T (apF E i R n) i) L i (v_ap (z_V R i) + n) := by
  intro n
  induction n with
  | zero => intro _ _ _; exact ⟨hS, hW, hG⟩
  | succ n ih =>
    intro h1 h2 h3
    obtain ⟨i1, i2, i3⟩ := ih (by omega) (fun j hj => h2 j (by omega)) (fun j hj => h3 j (by omega))
    obtain ⟨he, hL⟩ := h2 n (by omega)
    obtain ⟨e, hee⟩ : ∃ e, e = E ((v_lf (z_V R i) (v_ap (z_V R i) + n)).getD 0) := ⟨_, rfl⟩
    have eA : apF E i R (n + 1) = ap1 e i (apF E i R n) := by rw [hee]; rfl
    rw [← hee] at he hL
    have h4 := SR_hear i1 (i3 T) he i2
    rw [eA, dnF_s, dnF_T, hL]
    refine ⟨h4, dnW_o i2, ?_⟩
    have hT : z_T (ap1 e i (apF E i R n)) i = playR e (z_T (apF E i R n) i) := by
      show va_up (z_T (hrA e i (apF E i R n) 4)) i (playR e (z_T (hrA e i (apF E i R n) 4) i)) i = _
      rw [up_s, hrA_T]
    rw [hT, ← Nat.add_assoc]
    refine GT_s i3 (by omega) he hL (fun z T => ?_)
    have h5 := h3 (v_ap (z_V R i) + n) (by omega) (by rw [hL]; exact (eC_1 he).mp z) T
    rw [hL] at h5
    exact h5
