/-! THE TWO STATES, and spreading in both -/
def coT (t : zT) (s : Int32) : Nat := cntB (fun q => decide (1 ≤ q ∧ t.2.2.1 q = s)) 259
def oc (t : zT) : Nat := cntB (fun s => decide (0 < coT t (nI s))) 4
def Rel (E : Nat → zE) (R : zR) (M : mR) : Prop := (z_ld R = M.1.2.1 ∧ z_ep R = M.1.2.2.1 ∧ z_tm R = M.1.2.2.2) ∧ (∀ i, i < 3 → VR E M.2.1 M.2.2.1 (z_V R i) i) ∧ SR R M.2.2.2.1 M.2.2.2.2.1 ∧ ∀ i, i < 3 → GT (z_T R i) M.2.1 i (M.2.2.1.2.1 i)
def Bd (M : mR) : Prop := ∀ i, i < 3 → LV M.2.1 i (M.2.2.1.1 i) ∧ ∃ t, GT t M.2.1 i (M.2.2.1.1 i) ∧ M.2.2.1.1 i + oc t ≤ 64
def RIm (M : mR) : Prop := RI M.1.2.1 M.1.2.2.1 M.2.1 M.2.2.1
def Pl (R : zR) (M : mR) : Prop := ∀ k, M.1.2.1 = some k → GT (z_P R) M.2.1 k (M.2.2.1.1 k)
def Kk (M : mR) : Prop := ∀ k, M.1.2.1 = some k → k < 3
theorem SR_o {R : zR} {C : mC} {W : mW} (h : SR R C W) : mWo W := fun s hs => by
  obtain ⟨-, -, -, -, h1, h2, h3, -⟩ := h s hs
  omega
theorem stp_1 {L' : mL} {C : mC} {ln' : Nat → Nat} {k : Nat} {D : mD} {s : Nat} {X : (Nat → Nat) × mW × mT} (i : Nat) : (stp true L' C ln' k D s X).1 i = if k_lk (some k) D s = true ∧ i = s then ln' s else X.1 i := by
  unfold stp
  by_cases c : k_lk (some k) D s = true
  · rw [if_pos c, if_pos rfl]
    show va_up X.1 s (ln' s) i = _
    by_cases c2 : i = s
    · rw [if_pos ⟨c, c2⟩, c2, up_s]
    · rw [if_neg (fun z => c2 z.2), up_n c2]
  · rw [if_neg c, if_neg (fun z => c z.1)]
theorem stp_f {L' : mL} {C : mC} {ln' : Nat → Nat} {k : Nat} {D : mD} {s : Nat} {X : (Nat → Nat) × mW × mT} : stp false L' C ln' k D s X = X := by
  unfold stp
  split <;> rfl
theorem SPR {E : Nat → zE} {R : zR} {M : mR} (hk : Kk M) (h : Rel E R M) (hB : Bd M) (hR : RIm M) (hP : Pl R M) : Rel E (spR E R) (spM M) ∧ Bd (spM M) ∧ RIm (spM M) ∧ Pl (spR E R) (spM M) := by
  obtain ⟨⟨fa, ld, ep, tm⟩, L, ⟨ln, ap, ag, D⟩, C, W, T⟩ := M
  cases ld with
  | none =>
    have e1 : spR E R = R := by
      have e0 : z_ld R = none := h.1.1
      unfold spR; rw [e0]
    rw [e1]
    exact ⟨h, hB, hR, hP⟩
  | some k =>
    have hk3 := hk k rfl
    obtain ⟨⟨hld, hep, htm⟩, hV, hS, hG⟩ := h
    dsimp only at hld hep htm hV hS hG
    have eR : spR E R = spK E (z_qr R) k R 3 := by unfold spR; rw [hld]
    have hq : z_qr R = k_qr (some k) D := qr_k hld hk (fun i hi => ⟨(hV i hi).2.2.2.1, (hV i hi).2.2.2.2.1⟩)
    have hb : ∀ i, i < 3 → ln i ≤ 80 := fun i hi => by
      obtain ⟨-, t, -, h9⟩ := hB i hi
      have : ln i + oc t ≤ 64 := h9
      omega
    obtain ⟨Y, hY⟩ : ∃ Y, Y = s2F k D 3 0 (L, ln) := ⟨_, rfl⟩
    have hY2 := s2F_at (r := k) (D := D) 3 0 (L, ln) rfl hk3 (hb k hk3)
    rw [← hY] at hY2
    simp only [Nat.zero_le, true_and] at hY2
    obtain ⟨h1, h2⟩ := hY2
    obtain ⟨A', hA⟩ : ∃ A', A' = agF (some k) D ep 3 0 ag := ⟨_, rfl⟩
    have h3 := agF_at (ld := some k) (D := D) (ep := ep) 3 0 ag rfl
    rw [← hA] at h3
    simp only [Nat.zero_le, true_and] at h3
    obtain ⟨X', hX⟩ : ∃ X', X' = spX k D C Y (ap, W, T) := ⟨_, rfl⟩
    have eM : spM ((fa, some k, ep, tm), L, (ln, ap, ag, D), C, W, T) = ((fa, some k, ep, tm), Y.1, (Y.2, X'.1, A', D), C, X'.2.1, X'.2.2) := by
      rw [hX, hY, hA]; rfl
    have eX : X' = stp (k_qr (some k) D) Y.1 C Y.2 k D 2 (stp (k_qr (some k) D) Y.1 C Y.2 k D 1 (stp (k_qr (some k) D) Y.1 C Y.2 k D 0 (ap, W, T))) := by
      rw [hX]
      unfold spX
      cases k_qr (some k) D with
      | false => rw [stp_f, stp_f, stp_f]; rfl
      | true => rfl
    have hlkp : ∀ i, i < 3 → k_lk (some k) D i = true → Y.2 i = ln k ∧ A' i = ep ∧ ∀ j, j < ln k → eL Y.1 (80 * i + j) = eL L (80 * k + j) := fun i hi c => ⟨by rw [h1 i hi, if_pos c], by rw [h3 i hi, if_pos c], fun j hj => by rw [h2 i j hi (by have := hb k hk3; omega), if_pos ⟨c, hj⟩]⟩
    have hlkn : ∀ i, i < 3 → ¬ k_lk (some k) D i = true → Y.2 i = ln i ∧ ∀ j, j < ln i → eL Y.1 (80 * i + j) = eL L (80 * i + j) := fun i hi c => ⟨by rw [h1 i hi, if_neg c], fun j hj => by rw [h2 i j hi (by have := hb i hi; omega), if_neg (fun z => c z.1)]⟩
    have hkk : Y.2 k = ln k ∧ ∀ j, j < ln k → eL Y.1 (80 * k + j) = eL L (80 * k + j) := by
      by_cases c : k_lk (some k) D k = true
      · exact ⟨(hlkp k hk3 c).1, (hlkp k hk3 c).2.2⟩
      · exact hlkn k hk3 c
    have hBY : Bd ((fa, some k, ep, tm), Y.1, (Y.2, X'.1, A', D), C, X'.2.1, X'.2.2) := by
      intro i hi
      show LV Y.1 i (Y.2 i) ∧ ∃ t, GT t Y.1 i (Y.2 i) ∧ Y.2 i + oc t ≤ 64
      by_cases c : k_lk (some k) D i = true
      · obtain ⟨e1, -, e3⟩ := hlkp i hi c
        obtain ⟨b1, t, b2, b3⟩ := hB k hk3
        rw [e1]
        exact ⟨LV_congr b1 (fun j hj => (e3 j hj).symm), t, GT_congr b2 (fun j hj => (e3 j hj).symm), b3⟩
      · obtain ⟨e1, e3⟩ := hlkn i hi c
        obtain ⟨b1, t, b2, b3⟩ := hB i hi
        rw [e1]
        exact ⟨LV_congr b1 (fun j hj => (e3 j hj).symm), t, GT_congr b2 (fun j hj => (e3 j hj).symm), b3⟩
    have P0 : PRd E k ep C D L Y.1 ln Y.2 ag A' 0 R (ap, W, T) := by
      refine ⟨hld, hep, fun i hi => ?_, hS, SR_o hS, fun i hi => ?_, fun i _ hi _ => (RI_use hR rfl hi).1⟩
      · rw [if_neg (Nat.not_lt_zero i), if_neg (Nat.not_lt_zero i)]
        exact hV i hi
      · refine GT_congr (hG i hi) (fun j hj => ?_)
        have hu := RI_use hR rfl hi
        by_cases c : k_lk (some k) D i = true
        · rw [(hlkp i hi c).2.2 j (Nat.lt_of_lt_of_le hj hu.1)]
          exact hu.2 j hj
        · exact ((hlkn i hi c).2 j (Nat.lt_of_lt_of_le hj (RI_ap hR hi))).symm
    have hv : ∀ i, i < 3 → LV Y.1 i (Y.2 i) := fun i hi => (hBY i hi).1
    have P1 := PR_step (q := k_qr (some k) D) (by decide) hk3 hb h1 h2 h3 hv P0
    have P2 := PR_step (q := k_qr (some k) D) (by decide) hk3 hb h1 h2 h3 hv P1
    have P3 := PR_step (q := k_qr (some k) D) (by decide) hk3 hb h1 h2 h3 hv P2
    rw [← eX] at P3
    have eR2 : spR E R = sp1 E (k_qr (some k) D) k 2 (sp1 E (k_qr (some k) D) k 1 (sp1 E (k_qr (some k) D) k 0 R)) := by rw [eR, hq]; rfl
    have hKp := Kp_sp E R
    rw [← eR2] at P3
    obtain ⟨p1, p2, p3, p4, p5, p6, -⟩ := P3
    rw [eM]
    refine ⟨⟨⟨p1, p2, hKp.1.2.2.1.trans htm⟩, fun i hi => ?_, p4, p6⟩, hBY, ?_, ?_⟩
    · have := p3 i hi
      rw [if_pos (by omega), if_pos (by omega)] at this
      exact this
    · have R1 : RI (some k) ep Y.1 (Y.2, ap, A', D) := RI_copy hR rfl hk3 hb h1 h2 h3
      show RI (some k) ep Y.1 (Y.2, X'.1, A', D)
      cases c : k_qr (some k) D with
      | false =>
        have e : X' = (ap, W, T) := by rw [eX, c, stp_f, stp_f, stp_f]
        rw [e]; exact R1
      | true =>
        refine RI_commit (lk := k_lk (some k) D) R1 rfl hk3 (fun i hi ci => ?_) (cnt2 (of_decide_eq_true c)) (fun i hi => ?_)
        · obtain ⟨e1, e2, e3⟩ := hlkp i hi ci
          rw [hkk.1]
          exact ⟨e1, e2, fun j hj => (e3 j hj).trans (hkk.2 j hj).symm⟩
        · rw [eX, c, stp_1, stp_1, stp_1, hkk.1]
          by_cases ci : k_lk (some k) D i = true
          · rw [if_pos ci]
            have e1 := (hlkp i hi ci).1
            rcases (by omega : i = 0 ∨ i = 1 ∨ i = 2) with rfl | rfl | rfl
            · rw [if_neg (by omega), if_neg (by omega), if_pos ⟨ci, rfl⟩, e1]
            · rw [if_neg (by omega), if_pos ⟨ci, rfl⟩, e1]
            · rw [if_pos ⟨ci, rfl⟩, e1]
          · rw [if_neg ci, if_neg (fun z => ci (by rw [z.2]; exact z.1)), if_neg (fun z => ci (by rw [z.2]; exact z.1)), if_neg (fun z => ci (by rw [z.2]; exact z.1))]
    · intro k' hk'
      have : k' = k := (Option.some.inj hk').symm
      subst this
      show GT (z_P (spR E R)) Y.1 k' (Y.2 k')
      rw [hKp.1.2.2.2, hkk.1]
      exact GT_congr (hP k' rfl) (fun j hj => (hkk.2 j hj).symm)
