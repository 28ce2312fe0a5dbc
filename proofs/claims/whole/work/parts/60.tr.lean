/-! THE TREES: the class's and the model's, entry by entry -/
abbrev zM : Type := Nat × Nat × Int32 × Int32
/-- the class's ENTRY as the model keeps it -/
def eC (e : zE) : zM := (if e.1 = 0 then (if e.2.2.2.2 = true then 1 else 0) else e.1 + 1, e.2.1, e.2.2.1, e.2.2.2.1)
/-- an ENTRY is as the calls make them -/
def eW (e : zE) : Prop := eOK e ∧ (e.1 = 0 → e.2.2.2.1 = -1 ∨ ∃ s, s < 4 ∧ e.2.2.2.1 = nI s) ∧ (e.1 = 3 → e.2.1 = 0 ∧ ∃ s, s < 4 ∧ e.2.2.2.1 = nI s)
/-- one path in both trees -/
def TRq (n : Nat) (t : zT) (T : mT) (q : Nat) : Prop :=
  (T.1 q = true ∧ (∃ v, v ≤ n ∧ t.2.1 q = nI v) ∧ T.2.1 q = t.1 q ∧ T.2.2.1 q = t.2.1 q ∧ T.2.2.2.2 q = t.2.2.1 q ∧ (q < 43 → nI (T.2.2.2.1 q) = t.2.2.2 q ∧ T.2.2.2.1 q ≤ 6) ∧ (43 ≤ q → T.2.2.2.1 q = 0) ∧ (t.2.2.1 q = -1 ∨ ∃ s, s < 4 ∧ t.2.2.1 q = nI s)) ∨ (T.1 q = false ∧ t.2.1 q = -1 ∧ t.2.2.1 q = -1)
def TR (n : Nat) (t : zT) (T : mT) : Prop := (∀ q, q < 259 → TRq n t T q) ∧ (∀ q, q < 43 → ∃ m, m ≤ 6 ∧ t.2.2.2 q = nI m)
theorem nI_ne {v : Nat} (h : v < 2 ^ 31) : nI v ≠ -1 := by
  intro e
  have h1 := congrArg Int32.toInt e
  rw [nI_toInt h] at h1
  have h2 : (-1 : Int32).toInt = -1 := rfl
  omega
theorem TRq_t {n q : Nat} {t : zT} {T : mT} (hn : n < 2 ^ 31) (h : TRq n t T q) : T.1 q = decide (t.2.1 q ≠ -1) := by
  rcases h with ⟨h1, ⟨v, hv, h2⟩, -⟩ | ⟨h1, h2, -⟩
  · rw [h1, h2]
    exact (decide_eq_true (nI_ne (by omega))).symm
  · rw [h1, h2]
    rfl
theorem TRq_up {n m q : Nat} {t : zT} {T : mT} (hm : n ≤ m) (h : TRq n t T q) : TRq m t T q := by
  rcases h with ⟨h1, ⟨v, hv, h2⟩, h3⟩ | h
  · exact Or.inl ⟨h1, ⟨v, by omega, h2⟩, h3⟩
  · exact Or.inr h
theorem TR_up {n m : Nat} {t : zT} {T : mT} (hm : n ≤ m) (h : TR n t T) : TR m t T := ⟨fun q hq => TRq_up hm (h.1 q hq), h.2⟩
theorem upd_s {f : Nat → Int32} {j : Nat} {v : Int32} : upd f j v j = v := by simp [upd]
theorem upd_n {f : Nat → Int32} {j i : Nat} {v : Int32} (h : i ≠ j) : upd f j v i = f i := by simp [upd, h]
theorem up_s {α : Type} {f : Nat → α} {j : Nat} {v : α} : va_up f j v j = v := by simp [va_up]
theorem up_n {α : Type} {f : Nat → α} {j i : Nat} {v : α} (h : i ≠ j) : va_up f j v i = f i := by simp [va_up, h]
/-- only what lies at q counts -/
theorem TRq_congr {n q : Nat} {t t2 : zT} {T T2 : mT} (h : TRq n t T q) (e1 : T2.1 q = T.1 q) (e2 : T2.2.1 q = T.2.1 q) (e3 : T2.2.2.1 q = T.2.2.1 q) (e4 : T2.2.2.2.1 q = T.2.2.2.1 q) (e5 : T2.2.2.2.2 q = T.2.2.2.2 q) (d1 : t2.1 q = t.1 q) (d2 : t2.2.1 q = t.2.1 q) (d3 : t2.2.2.1 q = t.2.2.1 q) (d4 : q < 43 → t2.2.2.2 q = t.2.2.2 q) : TRq n t2 T2 q := by
  unfold TRq at h ⊢
  rw [e1, e2, e3, e4, e5, d1, d2, d3]
  rcases h with ⟨h1, h2, h3, h4, h5, h6, h7⟩ | h
  · exact Or.inl ⟨h1, h2, h3, h4, h5, fun c => by rw [d4 c]; exact h6 c, h7⟩
  · exact Or.inr h
theorem mkN_at {nx : Nat → Int32} {p q : Nat} {sq : Bool} (hp : 1 ≤ p) (hq : q < 43) : mkN nx p sq q = if sq = true ∧ q = (p - 1) / 6 then nI ((p - 1) % 6 + 1) else if q = p then nI 0 else nx q := by
  unfold mkN
  have e0 : p - (6 * ((p - 1) / 6) + 0 + 1) + 1 = (p - 1) % 6 + 1 := by omega
  rw [e0]
  have e1 : (if p < 43 then upd nx p (nI 0) else nx) q = if q = p then nI 0 else nx q := by
    by_cases c2 : q = p
    · subst c2; rw [if_pos hq, upd_s, if_pos (rfl : q = q)]
    · rw [if_neg c2]
      split
      · rw [upd_n c2]
      · rfl
  cases sq with
  | true =>
    show upd (if p < 43 then upd nx p (nI 0) else nx) ((p - 1) / 6) (nI ((p - 1) % 6 + 1)) q = _
    by_cases c : q = (p - 1) / 6
    · rw [if_pos (show true = true ∧ q = (p - 1) / 6 from ⟨rfl, c⟩), ← c, upd_s]
    · rw [if_neg (show ¬ (true = true ∧ q = (p - 1) / 6) from fun z => c z.2), upd_n c, e1]
  | false =>
    show (if p < 43 then upd nx p (nI 0) else nx) q = _
    rw [if_neg (show ¬ (false = true ∧ q = (p - 1) / 6) from fun z => absurd z.1 (by decide)), e1]
theorem clT_at {ow : Nat → Int32} {s : Int32} : ∀ (g q0 : Nat) (th : Nat → Bool) (q : Nat), clT ow s g q0 th q = if q0 ≤ q ∧ q < q0 + g ∧ ow q = s then false else th q := by
  intro g
  induction g with
  | zero => intro q0 th q; rw [if_neg (by omega)]; rfl
  | succ g ih =>
    intro q0 th q
    show clT ow s g (q0 + 1) _ q = _
    rw [ih]
    by_cases c : q0 + 1 ≤ q ∧ q < q0 + 1 + g ∧ ow q = s
    · rw [if_pos c, if_pos ⟨by omega, by omega, c.2.2⟩]
    · rw [if_neg c]
      by_cases c2 : q = q0
      · subst c2
        by_cases c3 : ow q = s
        · rw [if_pos (⟨Nat.le_refl _, by omega, c3⟩ : q ≤ q ∧ q < q + (g + 1) ∧ ow q = s)]
          split
          · exact up_s
          · next c4 =>
            cases e : th q with
            | false => rfl
            | true => exact absurd ⟨e, c3⟩ c4
        · rw [if_neg (show ¬ (th q = true ∧ ow q = s) from fun z => c3 z.2), if_neg (show ¬ (q ≤ q ∧ q < q + (g + 1) ∧ ow q = s) from fun z => c3 z.2.2)]
      · rw [if_neg (show ¬ (q0 ≤ q ∧ q < q0 + (g + 1) ∧ ow q = s) from fun z => c ⟨by omega, by omega, z.2.2⟩)]
        split
        · exact up_n c2
        · rfl
def dnX (x : zM) (T : mT) : mT := dnT x.1 x.2.1 x.2.2.1 x.2.2.2 T
/-- an ENTRY done in both -/
theorem TR_step {n : Nat} {t : zT} {T : mT} {e : zE} (h : TR n t T) (hn : n + 1 < 2 ^ 31) (he : eW e) (hs : e.1 = 1 → T.1 e.2.1 = true) : TR (n + 1) (playR e t) (dnX (eC e) T) := by
  obtain ⟨kd, p, d, o, sq⟩ := e
  obtain ⟨⟨k0, k1, k2, k3⟩, ho0, ho3⟩ := he
  dsimp only at k0 k1 k2 k3 ho0 ho3 hs
  rcases (by omega : kd = 0 ∨ kd = 1 ∨ kd = 2 ∨ kd = 3) with rfl | rfl | rfl | rfl
  · have hp := k1 (by decide)
    have hp1 := k2 rfl
    have ho := ho0 rfl
    have eP : playR (0, p, d, o, sq) t = (upd t.1 p d, upd t.2.1 p (nI 0), upd t.2.2.1 p o, mkN t.2.2.2 p sq) := rfl
    have eD : dnX (eC (0, p, d, o, sq)) T = (va_up T.1 p true, upd T.2.1 p d, upd T.2.2.1 p (nI 0), if sq = true then va_up (va_up T.2.2.2.1 p 0) ((p - 1) / 6) ((p - 1) % 6 + 1) else va_up T.2.2.2.1 p 0, upd T.2.2.2.2 p o) := by
      cases sq <;> rfl
    rw [eP, eD]
    have hpp : (p - 1) / 6 ≠ p := by omega
    constructor
    · intro q hq
      by_cases c : q = p
      · subst c
        left
        refine ⟨up_s, ⟨0, by omega, upd_s⟩, upd_s.trans upd_s.symm, upd_s.trans upd_s.symm, upd_s.trans upd_s.symm, fun c43 => ?_, fun c43 => ?_, ho.elim (fun z => Or.inl (upd_s.trans z)) (fun ⟨s9, z1, z2⟩ => Or.inr ⟨s9, z1, upd_s.trans z2⟩)⟩
        · have e0 : (if sq = true then va_up (va_up T.2.2.2.1 q 0) ((q - 1) / 6) ((q - 1) % 6 + 1) else va_up T.2.2.2.1 q 0) q = 0 := by
            split
            · rw [up_n (Ne.symm hpp), up_s]
            · exact up_s
          refine ⟨(congrArg nI e0).trans ?_, Nat.le_trans (Nat.le_of_eq e0) (by omega)⟩
          show nI 0 = mkN t.2.2.2 q sq q
          rw [mkN_at hp1 c43, if_neg (fun z => hpp z.2.symm), if_pos rfl]
        · show (if sq = true then va_up (va_up T.2.2.2.1 q 0) ((q - 1) / 6) ((q - 1) % 6 + 1) else va_up T.2.2.2.1 q 0) q = 0
          split
          · rw [up_n (Ne.symm hpp), up_s]
          · exact up_s
      · have h0 := TRq_up (Nat.le_succ n) (h.1 q hq)
        by_cases c2 : sq = true ∧ q = (p - 1) / 6
        · obtain ⟨c3, c4⟩ := c2
          have hq43 : q < 43 := by omega
          rcases h0 with ⟨h1, h2, h3, h4, h5, h6, h7, h8⟩ | ⟨h1, h2, h3⟩
          · left
            refine ⟨(up_n c).trans h1, ?_, ?_, ?_, ?_, fun _ => ?_, fun c43 => by omega, ?_⟩
            · obtain ⟨v, hv, e⟩ := h2
              exact ⟨v, hv, (upd_n c).trans e⟩
            · exact (upd_n c).trans (h3.trans (upd_n c).symm)
            · exact (upd_n c).trans (h4.trans (upd_n c).symm)
            · exact (upd_n c).trans (h5.trans (upd_n c).symm)
            · have e0 : (if sq = true then va_up (va_up T.2.2.2.1 p 0) ((p - 1) / 6) ((p - 1) % 6 + 1) else va_up T.2.2.2.1 p 0) q = (p - 1) % 6 + 1 := by rw [if_pos c3, c4, up_s]
              refine ⟨(congrArg nI e0).trans ?_, Nat.le_trans (Nat.le_of_eq e0) (by omega)⟩
              show nI ((p - 1) % 6 + 1) = mkN t.2.2.2 p sq q
              rw [mkN_at hp1 hq43, if_pos ⟨c3, c4⟩]
            · exact h8.elim (fun z => Or.inl ((upd_n c).trans z)) (fun ⟨s9, z1, z2⟩ => Or.inr ⟨s9, z1, (upd_n c).trans z2⟩)
          · right
            exact ⟨(up_n c).trans h1, (upd_n c).trans h2, (upd_n c).trans h3⟩
        · refine TRq_congr h0 (up_n c) (upd_n c) (upd_n c) ?_ (upd_n c) (upd_n c) (upd_n c) (upd_n c) (fun c43 => ?_)
          · show (if sq = true then va_up (va_up T.2.2.2.1 p 0) ((p - 1) / 6) ((p - 1) % 6 + 1) else va_up T.2.2.2.1 p 0) q = _
            split
            · next c3 => rw [up_n (fun z => c2 ⟨c3, z⟩), up_n c]
            · exact up_n c
          · show mkN t.2.2.2 p sq q = _
            rw [mkN_at hp1 c43, if_neg c2, if_neg c]
    · intro q hq
      show ∃ m, m ≤ 6 ∧ mkN t.2.2.2 p sq q = nI m
      rw [mkN_at hp1 hq]
      split
      · exact ⟨_, by omega, rfl⟩
      · split
        · exact ⟨0, by omega, rfl⟩
        · exact h.2 q hq
  · have hp := k1 (by decide)
    have ht := hs rfl
    have eP : playR (1, p, d, o, sq) t = (upd t.1 p d, upd t.2.1 p (t.2.1 p + nI 1), t.2.2.1, t.2.2.2) := rfl
    have eD : dnX (eC (1, p, d, o, sq)) T = (T.1, upd T.2.1 p d, upd T.2.2.1 p (T.2.2.1 p + nI 1), T.2.2.2) := rfl
    rw [eP, eD]
    refine ⟨fun q hq => ?_, h.2⟩
    by_cases c : q = p
    · subst c
      rcases h.1 q hq with ⟨h1, ⟨v, hv, h2⟩, h3, h4, h5⟩ | ⟨h1, -⟩
      · left
        refine ⟨h1, ⟨v + 1, by omega, ?_⟩, ?_, ?_, h5⟩
        · show upd t.2.1 q (t.2.1 q + nI 1) q = _
          rw [upd_s, h2, nI_add]
        · show upd T.2.1 q d q = upd t.1 q d q
          rw [upd_s, upd_s]
        · show upd T.2.2.1 q (T.2.2.1 q + nI 1) q = upd t.2.1 q (t.2.1 q + nI 1) q
          rw [upd_s, upd_s, h4]
      · rw [ht] at h1; exact nomatch h1
    · exact TRq_congr (TRq_up (Nat.le_succ n) (h.1 q hq)) rfl (upd_n c) (upd_n c) rfl rfl (upd_n c) (upd_n c) rfl (fun _ => rfl)
  · have hp := k1 (by decide)
    have eP : playR (2, p, d, o, sq) t = (t.1, upd t.2.1 p (-1), upd t.2.2.1 p (-1), t.2.2.2) := rfl
    have eD : dnX (eC (2, p, d, o, sq)) T = (va_up T.1 p false, T.2) := rfl
    rw [eP, eD]
    refine ⟨fun q hq => ?_, h.2⟩
    by_cases c : q = p
    · subst c
      exact Or.inr ⟨up_s, upd_s, upd_s⟩
    · exact TRq_congr (TRq_up (Nat.le_succ n) (h.1 q hq)) (up_n c) rfl rfl rfl rfl rfl (upd_n c) (upd_n c) (fun _ => rfl)
  · obtain ⟨-, s, hs4, rfl⟩ := ho3 rfl
    have eP : playR (3, p, d, nI s, sq) t = (t.1, owdK t.2.1 t.2.2.1 (nI s) 259, owdK t.2.2.1 t.2.2.1 (nI s) 259, t.2.2.2) := rfl
    obtain ⟨th2, hth⟩ : ∃ f, f = clT T.2.2.2.2 (nI s) 258 1 T.1 := ⟨_, rfl⟩
    have eD : dnX (eC (3, p, d, nI s, sq)) T = (th2, T.2) := by rw [hth]; rfl
    have hq2 : ∀ q, th2 q = if 1 ≤ q ∧ q < 1 + 258 ∧ T.2.2.2.2 q = nI s then false else T.1 q := fun q => by rw [hth]; exact clT_at 258 1 T.1 q
    rw [eP, eD]
    refine ⟨fun q hq => ?_, h.2⟩
    have h0 := TRq_up (Nat.le_succ n) (h.1 q hq)
    by_cases c : 1 ≤ q ∧ t.2.2.1 q = nI s
    · right
      have hT : T.2.2.2.2 q = nI s := by
        rcases h0 with ⟨-, -, -, -, h5, -⟩ | ⟨-, -, h3⟩
        · exact h5.trans c.2
        · rw [h3] at c
          exact absurd c.2.symm (nI_ne (by omega))
      refine ⟨?_, ?_, ?_⟩
      · show th2 q = false
        rw [hq2, if_pos ⟨c.1, by omega, hT⟩]
      · show owdK t.2.1 t.2.2.1 (nI s) 259 q = -1
        unfold owdK; rw [if_pos ⟨c.1, hq, c.2⟩]
      · show owdK t.2.2.1 t.2.2.1 (nI s) 259 q = -1
        unfold owdK; rw [if_pos ⟨c.1, hq, c.2⟩]
    · refine TRq_congr h0 ?_ rfl rfl rfl rfl rfl ?_ ?_ (fun _ => rfl)
      · show th2 q = T.1 q
        rw [hq2]
        split
        · next c2 =>
          rcases h0 with ⟨-, -, -, -, h5, -⟩ | ⟨h1, -⟩
          · exact absurd ⟨c2.1, h5.symm.trans c2.2.2⟩ c
          · exact h1.symm
        · rfl
      · show owdK t.2.1 t.2.2.1 (nI s) 259 q = _
        unfold owdK; rw [if_neg (fun z => c ⟨z.1, z.2.2⟩)]
      · show owdK t.2.2.1 t.2.2.1 (nI s) 259 q = _
        unfold owdK; rw [if_neg (fun z => c ⟨z.1, z.2.2⟩)]
/-- a cleared tree and a planted one -/
theorem TR_0 {n : Nat} {t : zT} {T : mT} (h1 : ∀ q, q < 259 → t.2.1 q = if q = 0 then nI 0 else -1) (h2 : ∀ q, q < 259 → t.2.2.1 q = -1) (h3 : ∀ q, q < 43 → t.2.2.2 q = nI 0) (h4 : t.1 0 = nI 0) : TR n t (plT T) := by
  refine ⟨fun q hq => ?_, fun q hq => ⟨0, by omega, h3 q hq⟩⟩
  by_cases c : q = 0
  · subst c
    left
    refine ⟨?_, ⟨0, by omega, h1 0 (by omega)⟩, ?_, ?_, ?_, fun _ => ?_, fun c => by omega, Or.inl (h2 0 (by omega))⟩
    · show thK T.1 259 0 = true
      simp [thK]
    · show upd T.2.1 0 (nI 0) 0 = t.1 0
      rw [upd_s, h4]
    · show upd T.2.2.1 0 (nI 0) 0 = t.2.1 0
      rw [upd_s, h1 0 (by omega)]; rfl
    · show upd T.2.2.2.2 0 (-1) 0 = t.2.2.1 0
      rw [upd_s, h2 0 (by omega)]
    · show nI (va_up T.2.2.2.1 0 0 0) = t.2.2.2 0 ∧ va_up T.2.2.2.1 0 0 0 ≤ 6
      rw [up_s, h3 0 (by omega)]
      exact ⟨rfl, by omega⟩
  · right
    refine ⟨?_, ?_, h2 q hq⟩
    · show thK T.1 259 q = false
      simp [thK, hq, c]
    · rw [h1 q hq, if_neg c]
