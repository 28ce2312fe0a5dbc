/-! WATCHES AND EVENTS: the class's and the model's, session by session -/
def wv (a b : Bool) : Int32 := if a then (if b then nI 3 else nI 1) else (if b then nI 2 else nI 0)
def WR (X : wS) (W : mW) (s : Nat) : Prop := (∀ q, q < 259 → X.1 q = wv (W.1 (259 * s + q)) (W.2.1 (259 * s + q))) ∧ X.2.2 = W.2.2.2 s ∧ X.2.2 ≤ 8 ∧ ∀ k, k < X.2.2 → X.2.1 k = W.2.2.1 (8 * s + k)
def pS (v : Int32) (X : wS) : wS := (X.1, if X.2.2 < 8 then (upd X.2.1 X.2.2 v, X.2.2 + 1) else X.2)
theorem WR_put {X : wS} {W : mW} {s : Nat} {v : Int32} (h : WR X W s) : WR (pS v X) (pW s v W) s := by
  obtain ⟨h1, h2, h3, h4⟩ := h
  unfold pS pW
  by_cases c : X.2.2 < 8
  · rw [if_pos c, if_neg (by omega)]
    refine ⟨h1, ?_, ?_, ?_⟩
    · show X.2.2 + 1 = va_up W.2.2.2 s (W.2.2.2 s + 1) s
      rw [up_s, h2]
    · show X.2.2 + 1 ≤ 8
      omega
    · intro k hk
      have hk' : k < X.2.2 + 1 := hk
      show upd X.2.1 X.2.2 v k = upd W.2.2.1 (8 * s + W.2.2.2 s) v (8 * s + k)
      by_cases e : k = X.2.2
      · subst e; rw [upd_s, ← h2, upd_s]
      · rw [upd_n e, upd_n (by omega)]
        exact h4 k (by omega)
  · rw [if_neg c, if_pos (by omega)]
    exact ⟨h1, h2, h3, h4⟩
theorem WR_pf {X : wS} {W : mW} {s k : Nat} {v : Int32} (h : WR X W s) (hk : W.2.2.2 k ≤ 8) (hks : s ≠ k) : WR X (pW k v W) s := by
  obtain ⟨h1, h2, h3, h4⟩ := h
  unfold pW
  split
  · exact ⟨h1, h2, h3, h4⟩
  · next c =>
    refine ⟨h1, ?_, h3, ?_⟩
    · show X.2.2 = va_up W.2.2.2 k (W.2.2.2 k + 1) s
      rw [up_n hks]; exact h2
    · intro j hj
      show X.2.1 j = upd W.2.2.1 (8 * k + W.2.2.2 k) v (8 * s + j)
      rw [upd_n (by omega)]
      exact h4 j hj
/-- the watches at other places -/
theorem WR_ww {X : wS} {W : mW} {s : Nat} {f g : Nat → Bool} (h : WR X W s) (hf : ∀ q, q < 259 → f (259 * s + q) = W.1 (259 * s + q)) (hg : ∀ q, q < 259 → g (259 * s + q) = W.2.1 (259 * s + q)) : WR X (f, g, W.2.2) s := ⟨fun q hq => by show X.1 q = wv (f (259 * s + q)) (g (259 * s + q)); rw [hf q hq, hg q hq]; exact h.1 q hq, h.2⟩
theorem WR_f {X : wS} {W : mW} {s k p w : Nat} (h : WR X W s) (hW : mWo W) (hk : k < 4) (hks : s ≠ k) (hp : p < 259) : WR X (tW p w k W) s := by
  have hA : WR X (tA p w k W) s := by
    unfold tA
    split
    · exact WR_pf h (hW k hk) hks
    · split
      · exact WR_pf h (hW k hk) hks
      · exact h
  have hB : WR X (tB p w k (tA p w k W)) s := by
    unfold tB
    refine WR_ww hA (fun q hq => up_n (by omega)) (fun q hq => ?_)
    split
    · exact up_n (by omega)
    · rfl
  have hoB : mWo (tB p w k (tA p w k W)) := fun j hj => tA_o hW j hj
  unfold tW tC
  split
  · have hP := WR_pf (v := nI (1200 + (p - 1) / 6)) hB (hoB k hk) hks
    refine WR_ww hP (fun q hq => rfl) (fun q hq => up_n (by omega))
  · exact hB
theorem wv_1 {a b : Bool} : (wv a b &&& nI 1 = 0 ↔ a = false) ∧ wv a b &&& (nI 1 ^^^ (-1)) = wv false b := by cases a <;> cases b <;> decide
theorem wv_2 {a b : Bool} : (wv a b &&& nI 2 = 0 ↔ b = false) ∧ wv a b &&& (nI 2 ^^^ (-1)) = wv a false := by cases a <;> cases b <;> decide
theorem wv_3 {a b : Bool} : (wv a b &&& nI 3 = 0 ↔ a = false ∧ b = false) ∧ wv a b &&& (nI 3 ^^^ (-1)) = wv false false := by cases a <;> cases b <;> decide
theorem tw1_p {p : Nat} {tl : Int32} {kd : Nat} {X : wS} : tw1 p tl kd X = if (X.1 p &&& tl) = 0 then X else (upd X.1 p (X.1 p &&& (tl ^^^ (-1))), (pS (nI (kd * 300 + p)) X).2) := rfl
/-- one watch changes -/
theorem WR_set {X : wS} {W : mW} {s p : Nat} {v : Int32} {a b : Bool} (h : WR X W s) (hv : v = wv a b) : WR (upd X.1 p v, X.2) (va_up W.1 (259 * s + p) a, va_up W.2.1 (259 * s + p) b, W.2.2) s := by
  refine ⟨fun q hq => ?_, h.2⟩
  show upd X.1 p v q = wv (va_up W.1 (259 * s + p) a (259 * s + q)) (va_up W.2.1 (259 * s + p) b (259 * s + q))
  by_cases c : q = p
  · subst c; rw [upd_s, up_s, up_s, hv]
  · rw [upd_n c, up_n (by omega), up_n (by omega)]
    exact h.1 q hq
theorem up_id {α : Type} {f : Nat → α} {j : Nat} {v : α} (h : f j = v) : va_up f j v = f := by
  funext i
  by_cases c : i = j
  · subst c; rw [up_s, h]
  · rw [up_n c]
theorem WR_1 {X : wS} {W : mW} {s p w : Nat} (h : WR X W s) (hp : p < 259) (hw : w = 1 ∨ w = 2) : WR (tw1 p (nI 1) w X) (tB p w s (tA p w s W)) s := by
  have hw3 : w ≠ 3 := by omega
  have hq := h.1 p hp
  rw [tw1_p]
  unfold tB
  rw [if_neg hw3]
  cases c : W.1 (259 * s + p) with
  | false =>
    have eA : tA p w s W = W := by unfold tA; rw [if_neg (by rw [c]; decide), if_neg (fun z => hw3 z.1)]
    rw [eA, if_pos (by rw [hq]; exact wv_1.1.mpr c), up_id c]
    exact h
  | true =>
    have eA : tA p w s W = pW s (nI (300 * w + p)) W := by unfold tA; rw [if_pos c]
    have hP := WR_put (v := nI (300 * w + p)) h
    rw [eA, if_neg (by rw [hq]; intro z; have := wv_1.1.mp z; rw [c] at this; exact nomatch this), show w * 300 + p = 300 * w + p by omega]
    have hS := WR_set (p := p) (v := X.1 p &&& (nI 1 ^^^ (-1))) (a := false) (b := W.2.1 (259 * s + p)) hP (by rw [hq]; exact wv_1.2)
    rw [up_id (show (pW s (nI (300 * w + p)) W).2.1 (259 * s + p) = W.2.1 (259 * s + p) by rw [pW_2])] at hS
    exact hS
theorem WR_3 {X : wS} {W : mW} {s p : Nat} (h : WR X W s) (hp : p < 259) : WR (tw1 p (nI 3) 3 X) (tB p 3 s (tA p 3 s W)) s := by
  have hq := h.1 p hp
  rw [tw1_p]
  unfold tB
  rw [if_pos rfl]
  have key : (W.1 (259 * s + p) = true ∨ W.2.1 (259 * s + p) = true) → tA p 3 s W = pW s (nI (900 + p)) W → WR (if X.1 p &&& nI 3 = 0 then X else (upd X.1 p (X.1 p &&& (nI 3 ^^^ (-1))), (pS (nI (3 * 300 + p)) X).2)) (va_up (tA p 3 s W).1 (259 * s + p) false, va_up (tA p 3 s W).2.1 (259 * s + p) false, (tA p 3 s W).2.2) s := by
    intro hc eA
    have hP := WR_put (v := nI (900 + p)) h
    rw [eA, if_neg (by
      rw [hq]; intro z
      have := wv_3.1.mp z
      rw [this.1, this.2] at hc
      exact hc.elim (fun y => nomatch y) (fun y => nomatch y)), show 3 * 300 + p = 900 + p by omega]
    exact WR_set (p := p) (v := X.1 p &&& (nI 3 ^^^ (-1))) (a := false) (b := false) hP (by rw [hq]; exact wv_3.2)
  cases c : W.1 (259 * s + p) with
  | true => exact key (Or.inl c) (by unfold tA; rw [if_pos c])
  | false =>
    cases c2 : W.2.1 (259 * s + p) with
    | true => exact key (Or.inr c2) (by unfold tA; rw [if_neg (by rw [c]; decide), if_pos ⟨rfl, c2⟩])
    | false =>
      have eA : tA p 3 s W = W := by unfold tA; rw [if_neg (by rw [c]; decide), if_neg (fun z => by rw [c2] at z; exact nomatch z.2)]
      rw [eA, if_pos (by rw [hq]; exact wv_3.1.mpr ⟨c, c2⟩), up_id c, up_id c2]
      exact h
theorem WR_C {X : wS} {W : mW} {s p w : Nat} (h : WR X W s) (hp : p < 259) (hw : w ≠ 2) : WR (tw1 ((p - 1) / 6) (nI 2) 4 X) (tC p w s W) s := by
  have hu : (p - 1) / 6 < 259 := by omega
  obtain ⟨u, hu0⟩ : ∃ u, u = (p - 1) / 6 := ⟨_, rfl⟩
  unfold tC
  rw [← hu0] at hu ⊢
  have hq := h.1 u hu
  rw [tw1_p]
  cases c : W.2.1 (259 * s + u) with
  | false =>
    rw [if_pos (by rw [hq]; exact wv_2.1.mpr c), if_neg (fun z => nomatch z.2)]
    exact h
  | true =>
    have hP := WR_put (v := nI (1200 + u)) h
    rw [if_neg (by rw [hq]; intro z; have := wv_2.1.mp z; rw [c] at this; exact nomatch this), if_pos ⟨hw, rfl⟩, show 4 * 300 + u = 1200 + u by omega]
    have hS := WR_set (p := u) (v := X.1 u &&& (nI 2 ^^^ (-1))) (a := W.1 (259 * s + u)) (b := false) hP (by rw [hq]; exact wv_2.2)
    rw [up_id (show (pW s (nI (1200 + u)) W).1 (259 * s + u) = W.1 (259 * s + u) by rw [pW_1])] at hS
    exact hS
theorem WR_T {X : wS} {W : mW} {s p w : Nat} (h : WR X W s) (hp : p < 259) (hw : w = 1 ∨ w = 2 ∨ w = 3) : WR (toS w p X) (tW p w s W) s := by
  unfold toS tW
  rcases hw with rfl | rfl | rfl
  · rw [if_neg (by decide), if_neg (by decide)]
    exact WR_C (WR_1 h hp (Or.inl rfl)) hp (by decide)
  · rw [if_pos rfl]
    have e : ∀ W', tC p 2 s W' = W' := fun W' => by unfold tC; rw [if_neg (fun z => z.1 rfl)]
    rw [e]
    exact WR_1 h hp (Or.inr rfl)
  · rw [if_neg (by decide), if_pos rfl]
    exact WR_C (WR_3 h hp) hp (by decide)
theorem WR_lf {srv : Option Nat} {C : mC} {p w : Nat} (hp : p < 259) {X : wS} {s : Nat} : ∀ (g k : Nat) (W : mW), k + g ≤ 4 → s < k → mWo W → WR X W s → WR X (tlF srv C p w g k W) s := by
  intro g
  induction g with
  | zero => intro k W _ _ _ h; exact h
  | succ g ih =>
    intro k W hk hs hW h
    refine ih (k + 1) _ (by omega) (by omega) (tl1_o hW) ?_
    unfold tl1
    split
    · exact WR_f h hW (by omega) (by omega) hp
    · exact h
/-- TELL, for all sessions -/
theorem WR_tl {srv : Option Nat} {C : mC} {p w : Nat} (hp : p < 259) (hw : w = 1 ∨ w = 2 ∨ w = 3) {X : wS} {s : Nat} (hs : s < 4) : ∀ (g k : Nat) (W : mW), k + g = 4 → k ≤ s → mWo W → WR X W s → WR (if C.1 s = true ∧ srv = some (C.2.2.1 s) then toS w p X else X) (tlF srv C p w g k W) s := by
  intro g
  induction g with
  | zero => intro k W h1 h2; omega
  | succ g ih =>
    intro k W hk hks hW h
    by_cases e : k = s
    · subst e
      refine WR_lf hp g (k + 1) _ (by omega) (by omega) (tl1_o hW) ?_
      unfold tl1
      split
      · exact WR_T h hp hw
      · exact h
    · refine ih (k + 1) _ (by omega) (by omega) (tl1_o hW) ?_
      unfold tl1
      split
      · exact WR_f h hW (by omega) (fun z => e z.symm) hp
      · exact h
theorem WR_cl {srv : Option Nat} {C : mC} {n : Nat} {t : zT} {T : mT} (hT : TR n t T) {o : Nat} (ho : o < 4) {X : wS} {s : Nat} (hs : s < 4) : ∀ (g q : Nat) (th : Nat → Bool) (W : mW), q + g = 259 → 1 ≤ q → (∀ j, q ≤ j → th j = T.1 j) → mWo W → WR (if C.1 s = true ∧ srv = some (C.2.2.1 s) then hrK t.2.2.1 (nI o) q X else X) W s → WR (if C.1 s = true ∧ srv = some (C.2.2.1 s) then hrK t.2.2.1 (nI o) 259 X else X) (clW srv C T.2.2.2.2 (nI o) g q th W) s := by
  intro g
  induction g with
  | zero =>
    intro q th W h1 h2 h3 hW h
    have e : q = 259 := by omega
    subst e
    exact h
  | succ g ih =>
    intro q th W h1 h2 h3 hW h
    have hq : q < 259 := by omega
    have hth := h3 q (Nat.le_refl _)
    have hiff : (th q = true ∧ T.2.2.2.2 q = nI o) ↔ t.2.2.1 q = nI o := by
      rw [hth]
      rcases hT.1 q hq with ⟨h1, -, -, -, h5, -⟩ | ⟨h1, -, h5⟩
      · rw [h5]
        exact ⟨fun z => z.2, fun z => ⟨h1, z⟩⟩
      · rw [h1, h5]
        exact ⟨(fun z => nomatch z.1), (fun z => absurd z.symm (nI_ne (by omega)))⟩
    show WR _ (clW srv C T.2.2.2.2 (nI o) g (q + 1) _ _) s
    by_cases c : t.2.2.1 q = nI o
    · rw [if_pos (hiff.mpr c), if_pos (hiff.mpr c)]
      refine ih (q + 1) _ _ (by omega) (by omega) (fun j hj => (up_n (by omega)).trans (h3 j (by omega))) (tlF_o hW) ?_
      have e : hrK t.2.2.1 (nI o) (q + 1) X = toS 3 q (hrK t.2.2.1 (nI o) q X) := by rw [hrK, if_pos ⟨h2, c⟩]
      have h9 := WR_tl (srv := srv) (C := C) (w := 3) hq (Or.inr (Or.inr rfl)) hs 4 0 W rfl (Nat.zero_le _) hW h
      rw [e]
      by_cases cc : C.1 s = true ∧ srv = some (C.2.2.1 s)
      · rw [if_pos cc] at h9 ⊢
        rw [if_pos cc] at h9
        exact h9
      · rw [if_neg cc] at h9 ⊢
        rw [if_neg cc] at h9
        exact h9
    · rw [if_neg (fun z => c (hiff.mp z)), if_neg (fun z => c (hiff.mp z))]
      refine ih (q + 1) _ _ (by omega) (by omega) (fun j hj => h3 j (by omega)) hW ?_
      have e : hrK t.2.2.1 (nI o) (q + 1) X = hrK t.2.2.1 (nI o) q X := by rw [hrK, if_neg (fun z => c z.2)]
      rw [e]
      exact h
def dnV (srv : Option Nat) (C : mC) (x : zM) (T : mT) (W : mW) : mW := dnW srv C x.1 x.2.1 x.2.2.2 T W
theorem dnW_4 {srv : Option Nat} {C : mC} {p : Nat} {s : Int32} {T : mT} {W : mW} : dnW srv C 4 p s T W = clW srv C T.2.2.2.2 s 258 1 T.1 W := by unfold dnW; rw [if_neg (by decide), if_neg (by decide), if_neg (by decide)]
/-- an ENTRY is heard in both -/
theorem WR_hear {srv : Option Nat} {C : mC} {n : Nat} {t : zT} {T : mT} (hT : TR n t T) {e : zE} (he : eW e) {X : wS} {W : mW} {s : Nat} (hs : s < 4) (hW : mWo W) (h : WR X W s) : WR (if C.1 s = true ∧ srv = some (C.2.2.1 s) then hearR e t X else X) (dnV srv C (eC e) T W) s := by
  obtain ⟨kd, p, d, o, sq⟩ := e
  obtain ⟨⟨k0, k1, k2, k3⟩, ho0, ho3⟩ := he
  dsimp only at k0 k1 k2 k3 ho0 ho3
  rcases (by omega : kd = 0 ∨ kd = 1 ∨ kd = 2 ∨ kd = 3) with rfl | rfl | rfl | rfl
  · have hp := k1 (by decide)
    have eD : dnV srv C (eC (0, p, d, o, sq)) T W = tlF srv C p 1 4 0 W := by cases sq <;> rfl
    rw [eD]
    exact WR_tl hp (Or.inl rfl) hs 4 0 W rfl (Nat.zero_le _) hW h
  · have hp := k1 (by decide)
    have eD : dnV srv C (eC (1, p, d, o, sq)) T W = tlF srv C p 2 4 0 W := rfl
    rw [eD]
    exact WR_tl hp (Or.inr (Or.inl rfl)) hs 4 0 W rfl (Nat.zero_le _) hW h
  · have hp := k1 (by decide)
    have eD : dnV srv C (eC (2, p, d, o, sq)) T W = tlF srv C p 3 4 0 W := rfl
    rw [eD]
    exact WR_tl hp (Or.inr (Or.inr rfl)) hs 4 0 W rfl (Nat.zero_le _) hW h
  · obtain ⟨-, o2, ho4, rfl⟩ := ho3 rfl
    have h9 := WR_cl (srv := srv) (C := C) hT ho4 (X := X) hs 258 1 T.1 W rfl (Nat.le_refl _) (fun _ _ => rfl) hW
    have e1 : hrK t.2.2.1 (nI o2) 1 X = X := by rw [hrK, if_neg (fun z => by omega)]; rfl
    rw [e1, ite_self] at h9
    have eD : dnV srv C (eC (3, p, d, nI o2, sq)) T W = clW srv C T.2.2.2.2 (nI o2) 258 1 T.1 W := by rw [show eC (3, p, d, nI o2, sq) = (4, p, d, nI o2) from rfl]; unfold dnV; exact dnW_4
    have eH : hearR (3, p, d, nI o2, sq) t X = hrK t.2.2.1 (nI o2) 259 X := rfl
    rw [eD, eH]
    exact h9 h
