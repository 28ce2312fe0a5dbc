/-! THE MODEL: childrenOf, owned, put, tell, done, grow, over its parts A L S C W T -/
def mCo (C : mC) : Prop := ∀ s, s < 4 → C.2.2.1 s < 3
def mWo (W : mW) : Prop := ∀ s, s < 4 → W.2.2.2 s ≤ 8
def mEo (L : mL) (e : Nat) : Prop := L.1 e ≤ 4 ∧ L.2.1 e < 259 ∧ (L.1 e = 1 → 1 ≤ L.2.1 e)
/-- PUT -/
def pW (s : Nat) (v : Int32) (W : mW) : mW := if W.2.2.2 s = 8 then W else (W.1, W.2.1, upd W.2.2.1 (8 * s + W.2.2.2 s) v, va_up W.2.2.2 s (W.2.2.2 s + 1))
theorem pW_o {s : Nat} {v : Int32} {W : mW} (hW : mWo W) : mWo (pW s v W) := by
  intro j hj
  have h1 := hW j hj
  unfold pW
  split
  · exact h1
  · next c =>
    by_cases e : j = s
    · subst e
      have : va_up W.2.2.2 j (W.2.2.2 j + 1) j = W.2.2.2 j + 1 := by simp [va_up]
      show va_up W.2.2.2 j (W.2.2.2 j + 1) j ≤ 8
      rw [this]
      omega
    · show va_up W.2.2.2 s (W.2.2.2 s + 1) j ≤ 8
      have : va_up W.2.2.2 s (W.2.2.2 s + 1) j = W.2.2.2 j := by simp [va_up, e]
      rw [this]
      exact h1
theorem pW_1 {s : Nat} {v : Int32} {W : mW} : (pW s v W).1 = W.1 := by unfold pW; split <;> rfl
theorem pW_2 {s : Nat} {v : Int32} {W : mW} : (pW s v W).2.1 = W.2.1 := by unfold pW; split <;> rfl
/-- TELL, one session: what is told of p itself -/
def tA (p w s : Nat) (W : mW) : mW := if W.1 (259 * s + p) = true then pW s (nI (300 * w + p)) W else if w = 3 ∧ W.2.1 (259 * s + p) = true then pW s (nI (900 + p)) W else W
def tB (p w s : Nat) (W : mW) : mW := (va_up W.1 (259 * s + p) false, if w = 3 then va_up W.2.1 (259 * s + p) false else W.2.1, W.2.2)
def tC (p w s : Nat) (W : mW) : mW := if w ≠ 2 ∧ W.2.1 (259 * s + (p - 1) / 6) = true then ((pW s (nI (1200 + (p - 1) / 6)) W).1, va_up (pW s (nI (1200 + (p - 1) / 6)) W).2.1 (259 * s + (p - 1) / 6) false, (pW s (nI (1200 + (p - 1) / 6)) W).2.2) else W
def tW (p w s : Nat) (W : mW) : mW := tC p w s (tB p w s (tA p w s W))
theorem tA_o {p w s : Nat} {W : mW} (hW : mWo W) : mWo (tA p w s W) := by
  unfold tA
  split
  · exact pW_o hW
  · split
    · exact pW_o hW
    · exact hW
theorem tW_o {p w s : Nat} {W : mW} (hW : mWo W) : mWo (tW p w s W) := by
  have h1 : mWo (tB p w s (tA p w s W)) := fun j hj => tA_o hW j hj
  unfold tW tC
  split
  · exact fun j hj => pW_o h1 j hj
  · exact h1
def tl1 (srv : Option Nat) (C : mC) (p w k : Nat) (W : mW) : mW := if C.1 k = true ∧ srv = some (C.2.2.1 k) then tW p w k W else W
def tlF (srv : Option Nat) (C : mC) (p w : Nat) : Nat → Nat → mW → mW
  | 0, _, W => W
  | g + 1, k, W => tlF srv C p w g (k + 1) (tl1 srv C p w k W)
theorem tl1_o {srv : Option Nat} {C : mC} {p w k : Nat} {W : mW} (hW : mWo W) : mWo (tl1 srv C p w k W) := by
  unfold tl1
  split
  · exact tW_o hW
  · exact hW
theorem tlF_o {srv : Option Nat} {C : mC} {p w : Nat} : ∀ {g k : Nat} {W : mW}, mWo W → mWo (tlF srv C p w g k W) := by
  intro g
  induction g with
  | zero => intro k W hW; exact hW
  | succ g ih => intro k W hW; exact ih (tl1_o hW)
theorem tlF_none {C : mC} {p w : Nat} : ∀ {g k : Nat} {W : mW}, tlF none C p w g k W = W := by
  intro g
  induction g with
  | zero => intro k W; rfl
  | succ g ih =>
    intro k W
    simp only [tlF]
    rw [ih]
    unfold tl1
    rw [if_neg (fun z => nomatch z.2)]
/-- DONE: the tree -/
def clT (ow : Nat → Int32) (s : Int32) : Nat → Nat → (Nat → Bool) → (Nat → Bool)
  | 0, _, th => th
  | g + 1, q, th => clT ow s g (q + 1) (if th q = true ∧ ow q = s then va_up th q false else th)
def clW (srv : Option Nat) (C : mC) (ow : Nat → Int32) (s : Int32) : Nat → Nat → (Nat → Bool) → mW → mW
  | 0, _, _, W => W
  | g + 1, q, th, W => clW srv C ow s g (q + 1) (if th q = true ∧ ow q = s then va_up th q false else th) (if th q = true ∧ ow q = s then tlF srv C q 3 4 0 W else W)
def dnT (k p : Nat) (d s : Int32) (T : mT) : mT :=
  if k < 2 then (va_up T.1 p true, upd T.2.1 p d, upd T.2.2.1 p (nI 0), if k = 1 then va_up (va_up T.2.2.2.1 p 0) ((p - 1) / 6) ((p - 1) % 6 + 1) else va_up T.2.2.2.1 p 0, upd T.2.2.2.2 p s)
  else if k = 2 then (T.1, upd T.2.1 p d, upd T.2.2.1 p (T.2.2.1 p + nI 1), T.2.2.2)
  else if k = 3 then (va_up T.1 p false, T.2)
  else (clT T.2.2.2.2 s 258 1 T.1, T.2)
def dnW (srv : Option Nat) (C : mC) (k p : Nat) (s : Int32) (T : mT) (W : mW) : mW :=
  if k < 2 then tlF srv C p 1 4 0 W
  else if k = 2 then tlF srv C p 2 4 0 W
  else if k = 3 then tlF srv C p 3 4 0 W
  else clW srv C T.2.2.2.2 s 258 1 T.1 W
theorem clW_o {srv : Option Nat} {C : mC} {ow : Nat → Int32} {s : Int32} : ∀ {g q : Nat} {th : Nat → Bool} {W : mW}, mWo W → mWo (clW srv C ow s g q th W) := by
  intro g
  induction g with
  | zero => intro q th W hW; exact hW
  | succ g ih =>
    intro q th W hW
    refine ih ?_
    split
    · exact tlF_o hW
    · exact hW
theorem clW_none {C : mC} {ow : Nat → Int32} {s : Int32} : ∀ {g q : Nat} {th : Nat → Bool} {W : mW}, clW none C ow s g q th W = W := by
  intro g
  induction g with
  | zero => intro q th W; rfl
  | succ g ih =>
    intro q th W
    simp only [clW]
    rw [ih, tlF_none, ite_self]
theorem dnW_o {srv : Option Nat} {C : mC} {k p : Nat} {s : Int32} {T : mT} {W : mW} (hW : mWo W) : mWo (dnW srv C k p s T W) := by
  unfold dnW
  split
  · exact tlF_o hW
  · split
    · exact tlF_o hW
    · split
      · exact tlF_o hW
      · exact clW_o hW
theorem dnW_none {C : mC} {k p : Nat} {s : Int32} {T : mT} {W : mW} : dnW none C k p s T W = W := by
  unfold dnW
  simp only [tlF_none, clW_none, ite_self]
/-- GROW -/
def plT (T : mT) : mT := (thK T.1 259, upd T.2.1 0 (nI 0), upd T.2.2.1 0 (nI 0), va_up T.2.2.2.1 0 0, upd T.2.2.2.2 0 (-1))
def dnL (L : mL) (e : Nat) (T : mT) : mT := dnT (L.1 e) (L.2.1 e) (L.2.2.1 e) (L.2.2.2 e) T
def grF (L : mL) (b : Nat) : Nat → Nat → mT → mT
  | 0, _, T => T
  | g + 1, k, T => grF L b g (k + 1) (dnL L (80 * b + k) T)
def grT (L : mL) (b n : Nat) (T : mT) : mT := grF L b n 0 (plT T)
set_option maxHeartbeats 4000000 in
set_option maxRecDepth 100000 in
theorem lp_md_childrenOf {l : Launch} {G : q_G} (htr : l.stackTraces = false) {h : q_H} {N : Nat} {A : mA} {L : mL} {S : mS} {C : mC} {W : mW} {T : mT} {p : Nat} (hp : p < 43) : ∀ (g k : Nat), k + g = 6 → q_Ev l G m_md_childrenOf 0 0 0 0 4 [some (.ref (42)), some (.int (nI (p))), some (.int (kidB (T.1) p k)), some (.int (nI (k)))] [] (md_put h (((A.1), (A.2.1), (A.2.2.1), (A.2.2.2)), ((L.1), (L.2.1), (L.2.2.1), (L.2.2.2)), ((S.1), (S.2.1), (S.2.2.1), (S.2.2.2.1), (S.2.2.2.2)), ((C.1), (C.2.1), (C.2.2.1), (C.2.2.2.1), (C.2.2.2.2)), ((W.1), (W.2.1), (W.2.2.1), (W.2.2.2)), ((T.1), (T.2.1), (T.2.2.1), (T.2.2.2.1), (T.2.2.2.2)))) N (q_Id (some (.int (kidB T.1 p 6))) (md_put h (A, L, S, C, W, T)) N) := by
  intro g
  induction g with
  | zero =>
    intro k he
    have hkn : k = 6 := by omega
    subst hkn
    refine e_iload_n (pc := 4) d_md_childrenOf_4 rfl ?_
    refine e_bipush (pc := 5) d_md_childrenOf_5 (v := (nI (43))) rfl ?_
    refine e_icmp_geN (pc := 7) (tgt := 48) d_md_childrenOf_7 (by decide) (by omega) (by omega) (fun c => ?_) (fun c => ?_)
    · omega
    · refine e_iload_n (pc := 10) d_md_childrenOf_10 rfl ?_
      refine e_bipush (pc := 11) d_md_childrenOf_11 (v := (nI (6))) rfl ?_
      refine e_icmp_geN (pc := 13) (tgt := 48) d_md_childrenOf_13 (by decide) (by omega) (by omega) (fun c2 => ?_) (fun c2 => ?_)
      · refine e_iload_n (pc := 48) d_md_childrenOf_48 rfl ?_
        exact e_iret (pc := 49) d_md_childrenOf_49 rfl (⟨rfl, rfl, rfl⟩)
      · omega
  | succ g ih =>
    intro k he
    refine e_iload_n (pc := 4) d_md_childrenOf_4 rfl ?_
    refine e_bipush (pc := 5) d_md_childrenOf_5 (v := (nI (43))) rfl ?_
    refine e_icmp_geN (pc := 7) (tgt := 48) d_md_childrenOf_7 (by decide) (by omega) (by omega) (fun c => ?_) (fun c => ?_)
    · omega
    · refine e_iload_n (pc := 10) d_md_childrenOf_10 rfl ?_
      refine e_bipush (pc := 11) d_md_childrenOf_11 (v := (nI (6))) rfl ?_
      refine e_icmp_geN (pc := 13) (tgt := 48) d_md_childrenOf_13 (by decide) (by omega) (by omega) (fun c2 => ?_) (fun c2 => ?_)
      · omega
      · refine e_iload_n (pc := 16) d_md_childrenOf_16 rfl ?_
        refine e_aload_n (pc := 17) d_md_childrenOf_17 rfl ?_
        refine e_get (pc := 18) d_md_childrenOf_18 fl_md_69 md_g42 rfl ?_
        refine e_bipush (pc := 21) d_md_childrenOf_21 (v := (nI (6))) rfl ?_
        refine e_iload_n (pc := 23) d_md_childrenOf_23 rfl ?_
        refine e_imulN (pc := 24) d_md_childrenOf_24  ?_
        refine e_iload_n (pc := 25) d_md_childrenOf_25 rfl ?_
        refine e_iaddN (pc := 26) d_md_childrenOf_26  ?_
        refine e_iconst (pc := 27) d_md_childrenOf_27 (v := (nI (1))) rfl ?_
        refine e_iaddN (pc := 28) d_md_childrenOf_28  ?_
        refine e_zaldN (pc := 29) d_md_childrenOf_29 (f := (T.1)) md_g61 (by omega) (by decide) ?_
        refine e_ifB_eq (pc := 30) (tgt := 39) d_md_childrenOf_30 (by decide) (fun c3 => ?_) (fun c3 => ?_)
        · refine e_iconst (pc := 39) d_md_childrenOf_39 (v := (nI (0))) rfl ?_
          refine e_ior (pc := 40) d_md_childrenOf_40  ?_
          refine e_istore_n (pc := 41) d_md_childrenOf_41 (by decide) ?_
          refine e_iincN (pc := 42) d_md_childrenOf_42 (a := k) (b := 1) rfl rfl (by decide) ?_
          refine e_goto (pc := 45) (tgt := 4) d_md_childrenOf_45 (by decide) ?_
          have e : kidB T.1 p (k + 1) = (kidB (T.1) p k) ||| (nI (0)) := by simp only [kidB]; rw [c3]; exact Int32.or_zero.symm
          have := ih (k + 1) (by omega)
          rw [e] at this
          exact this
        · refine e_iconst (pc := 33) d_md_childrenOf_33 (v := (nI (1))) rfl ?_
          refine e_iload_n (pc := 34) d_md_childrenOf_34 rfl ?_
          refine e_ishl (pc := 35) d_md_childrenOf_35  ?_
          refine e_goto (pc := 36) (tgt := 40) d_md_childrenOf_36 (by decide) ?_
          refine e_ior (pc := 40) d_md_childrenOf_40  ?_
          refine e_istore_n (pc := 41) d_md_childrenOf_41 (by decide) ?_
          refine e_iincN (pc := 42) d_md_childrenOf_42 (a := k) (b := 1) rfl rfl (by decide) ?_
          refine e_goto (pc := 45) (tgt := 4) d_md_childrenOf_45 (by decide) ?_
          have e : kidB T.1 p (k + 1) = (kidB (T.1) p k) ||| ((nI (1)) <<< ((nI (k)) &&& 31)) := by simp only [kidB]; rw [c3]; rfl
          have := ih (k + 1) (by omega)
          rw [e] at this
          exact this
set_option maxHeartbeats 4000000 in
set_option maxRecDepth 100000 in
theorem c_md_childrenOf {l : Launch} {G : q_G} (htr : l.stackTraces = false) {h : q_H} {N : Nat} {A : mA} {L : mL} {S : mS} {C : mC} {W : mW} {T : mT} {p : Nat} (hp : p < 259) : q_Met l G m_md_childrenOf 0 0 0 0 [.ref (42), .int (nI (p))] (md_put h (A, L, S, C, W, T)) N (q_Id (some (.int (if p < 43 then kidB T.1 p 6 else nI 0))) (md_put h (A, L, S, C, W, T)) N) := by
  refine q_Met.mk htr (by decide +kernel) rfl (List.forall_mem_cons.mpr ⟨rfl, List.forall_mem_cons.mpr ⟨rfl, fun _ h => nomatch h⟩⟩) (Nat.le_of_ble_eq_true rfl) ?_
  by_cases c0 : p < 43
  · refine e_iconst (pc := 0) d_md_childrenOf_0 (v := (nI (0))) rfl ?_
    refine e_istore_n (pc := 1) d_md_childrenOf_1 (by decide) ?_
    refine e_iconst (pc := 2) d_md_childrenOf_2 (v := (nI (0))) rfl ?_
    refine e_istore_n (pc := 3) d_md_childrenOf_3 (by decide) ?_
    rw [if_pos c0]
    exact lp_md_childrenOf htr c0 6 0 (by omega)
  · refine e_iconst (pc := 0) d_md_childrenOf_0 (v := (nI (0))) rfl ?_
    refine e_istore_n (pc := 1) d_md_childrenOf_1 (by decide) ?_
    refine e_iconst (pc := 2) d_md_childrenOf_2 (v := (nI (0))) rfl ?_
    refine e_istore_n (pc := 3) d_md_childrenOf_3 (by decide) ?_
    refine e_iload_n (pc := 4) d_md_childrenOf_4 rfl ?_
    refine e_bipush (pc := 5) d_md_childrenOf_5 (v := (nI (43))) rfl ?_
    refine e_icmp_geN (pc := 7) (tgt := 48) d_md_childrenOf_7 (by decide) (by omega) (by omega) (fun c => ?_) (fun c => ?_)
    · refine e_iload_n (pc := 48) d_md_childrenOf_48 rfl ?_
      exact e_iret (pc := 49) d_md_childrenOf_49 rfl (⟨by rw [if_neg c0], rfl, rfl⟩)
    · omega
set_option maxHeartbeats 4000000 in
set_option maxRecDepth 100000 in
theorem lp_md_owned {l : Launch} {G : q_G} (htr : l.stackTraces = false) {h : q_H} {N : Nat} {A : mA} {L : mL} {S : mS} {C : mC} {W : mW} {T : mT} {s : Int32} : ∀ (g k : Nat), k + g = 259 ∧ 1 ≤ k → q_Ev l G m_md_owned 0 0 0 0 4 [some (.ref (42)), some (.int (s)), some (.int (nI (cntB (fun q => decide (1 ≤ q ∧ T.1 q = true ∧ T.2.2.2.2 q = s)) k))), some (.int (nI (k)))] [] (md_put h (((A.1), (A.2.1), (A.2.2.1), (A.2.2.2)), ((L.1), (L.2.1), (L.2.2.1), (L.2.2.2)), ((S.1), (S.2.1), (S.2.2.1), (S.2.2.2.1), (S.2.2.2.2)), ((C.1), (C.2.1), (C.2.2.1), (C.2.2.2.1), (C.2.2.2.2)), ((W.1), (W.2.1), (W.2.2.1), (W.2.2.2)), ((T.1), (T.2.1), (T.2.2.1), (T.2.2.2.1), (T.2.2.2.2)))) N (q_Id (some (.int (nI (cntB (fun q => decide (1 ≤ q ∧ T.1 q = true ∧ T.2.2.2.2 q = s)) 259)))) (md_put h (A, L, S, C, W, T)) N) := by
  intro g
  induction g with
  | zero =>
    intro k he
    have hkn : k = 259 := by omega
    subst hkn
    refine e_iload_n (pc := 4) d_md_owned_4 rfl ?_
    refine e_sipush (pc := 5) d_md_owned_5 (v := (nI (259))) rfl ?_
    refine e_icmp_geN (pc := 8) (tgt := 44) d_md_owned_8 (by decide) (by omega) (by omega) (fun c => ?_) (fun c => ?_)
    · refine e_iload_n (pc := 44) d_md_owned_44 rfl ?_
      exact e_iret (pc := 45) d_md_owned_45 rfl (⟨rfl, rfl, rfl⟩)
    · omega
  | succ g ih =>
    intro k he
    refine e_iload_n (pc := 4) d_md_owned_4 rfl ?_
    refine e_sipush (pc := 5) d_md_owned_5 (v := (nI (259))) rfl ?_
    refine e_icmp_geN (pc := 8) (tgt := 44) d_md_owned_8 (by decide) (by omega) (by omega) (fun c => ?_) (fun c => ?_)
    · omega
    · refine e_iload_n (pc := 11) d_md_owned_11 rfl ?_
      refine e_aload_n (pc := 12) d_md_owned_12 rfl ?_
      refine e_get (pc := 13) d_md_owned_13 fl_md_69 md_g42 rfl ?_
      refine e_iload_n (pc := 16) d_md_owned_16 rfl ?_
      refine e_zaldN (pc := 17) d_md_owned_17 (f := (T.1)) md_g61 (by omega) (by decide) ?_
      refine e_ifB_eq (pc := 18) (tgt := 35) d_md_owned_18 (by decide) (fun c2 => ?_) (fun c2 => ?_)
      · refine e_iconst (pc := 35) d_md_owned_35 (v := (nI (0))) rfl ?_
        refine e_iaddN (pc := 36) d_md_owned_36  ?_
        refine e_istore_n (pc := 37) d_md_owned_37 (by decide) ?_
        refine e_iincN (pc := 38) d_md_owned_38 (a := k) (b := 1) rfl rfl (by decide) ?_
        refine e_goto (pc := 41) (tgt := 4) d_md_owned_41 (by decide) ?_
        have e : cntB (fun q => decide (1 ≤ q ∧ T.1 q = true ∧ T.2.2.2.2 q = s)) (k + 1) = cntB (fun q => decide (1 ≤ q ∧ T.1 q = true ∧ T.2.2.2.2 q = s)) k + 0 := by simp [cntB, c2]
        have := ih (k + 1) ⟨by omega, by omega⟩
        rw [e] at this
        exact this
      · refine e_aload_n (pc := 21) d_md_owned_21 rfl ?_
        refine e_get (pc := 22) d_md_owned_22 fl_md_81 md_g42 rfl ?_
        refine e_iload_n (pc := 25) d_md_owned_25 rfl ?_
        refine e_ialdN (pc := 26) d_md_owned_26 (f := (T.2.2.2.2)) md_g65 (by omega) (by decide) ?_
        refine e_iload_n (pc := 27) d_md_owned_27 rfl ?_
        refine e_icmp_ne (pc := 28) (tgt := 35) d_md_owned_28 (by decide) (fun c3 => ?_) (fun c3 => ?_)
        · refine e_iconst (pc := 35) d_md_owned_35 (v := (nI (0))) rfl ?_
          refine e_iaddN (pc := 36) d_md_owned_36  ?_
          refine e_istore_n (pc := 37) d_md_owned_37 (by decide) ?_
          refine e_iincN (pc := 38) d_md_owned_38 (a := k) (b := 1) rfl rfl (by decide) ?_
          refine e_goto (pc := 41) (tgt := 4) d_md_owned_41 (by decide) ?_
          have e : cntB (fun q => decide (1 ≤ q ∧ T.1 q = true ∧ T.2.2.2.2 q = s)) (k + 1) = cntB (fun q => decide (1 ≤ q ∧ T.1 q = true ∧ T.2.2.2.2 q = s)) k + 0 := by simp [cntB, c2, c3]
          have := ih (k + 1) ⟨by omega, by omega⟩
          rw [e] at this
          exact this
        · refine e_iconst (pc := 31) d_md_owned_31 (v := (nI (1))) rfl ?_
          refine e_goto (pc := 32) (tgt := 36) d_md_owned_32 (by decide) ?_
          refine e_iaddN (pc := 36) d_md_owned_36  ?_
          refine e_istore_n (pc := 37) d_md_owned_37 (by decide) ?_
          refine e_iincN (pc := 38) d_md_owned_38 (a := k) (b := 1) rfl rfl (by decide) ?_
          refine e_goto (pc := 41) (tgt := 4) d_md_owned_41 (by decide) ?_
          have e : cntB (fun q => decide (1 ≤ q ∧ T.1 q = true ∧ T.2.2.2.2 q = s)) (k + 1) = cntB (fun q => decide (1 ≤ q ∧ T.1 q = true ∧ T.2.2.2.2 q = s)) k + 1 := by simp [cntB, c2, c3, he.2]
          have := ih (k + 1) ⟨by omega, by omega⟩
          rw [e] at this
          exact this
set_option maxHeartbeats 4000000 in
set_option maxRecDepth 100000 in
theorem c_md_owned {l : Launch} {G : q_G} (htr : l.stackTraces = false) {h : q_H} {N : Nat} {A : mA} {L : mL} {S : mS} {C : mC} {W : mW} {T : mT} {s : Int32} : q_Met l G m_md_owned 0 0 0 0 [.ref (42), .int (s)] (md_put h (A, L, S, C, W, T)) N (q_Id (some (.int (nI (cntB (fun q => decide (1 ≤ q ∧ T.1 q = true ∧ T.2.2.2.2 q = s)) 259)))) (md_put h (A, L, S, C, W, T)) N) := by
  refine q_Met.mk htr (by decide +kernel) rfl (List.forall_mem_cons.mpr ⟨rfl, List.forall_mem_cons.mpr ⟨rfl, fun _ h => nomatch h⟩⟩) (Nat.le_of_ble_eq_true rfl) ?_
  refine e_iconst (pc := 0) d_md_owned_0 (v := (nI (0))) rfl ?_
  refine e_istore_n (pc := 1) d_md_owned_1 (by decide) ?_
  refine e_iconst (pc := 2) d_md_owned_2 (v := (nI (1))) rfl ?_
  refine e_istore_n (pc := 3) d_md_owned_3 (by decide) ?_
  have e : cntB (fun q => decide (1 ≤ q ∧ T.1 q = true ∧ T.2.2.2.2 q = s)) 1 = 0 := by simp [cntB]
  have := lp_md_owned (l := l) (G := G) htr (h := h) (N := N) (A := A) (L := L) (S := S) (C := C) (W := W) (T := T) (s := s) 258 1 ⟨by omega, by omega⟩
  rw [e] at this
  exact this
set_option maxHeartbeats 4000000 in
set_option maxRecDepth 100000 in
theorem c_md_put {l : Launch} {G : q_G} (htr : l.stackTraces = false) {h : q_H} {N : Nat} {A : mA} {L : mL} {S : mS} {C : mC} {W : mW} {T : mT} {s : Nat} (hs : s < 4) (hW : mWo W) {v : Int32} : q_Met l G m_md_put 0 0 0 0 [.ref (42), .int (nI (s)), .int (v)] (md_put h (A, L, S, C, W, T)) N (q_To (none) (md_put h (A, L, S, C, pW s v W, T)) N) := by
  refine q_Met.mk htr (by decide +kernel) rfl (List.forall_mem_cons.mpr ⟨rfl, List.forall_mem_cons.mpr ⟨rfl, List.forall_mem_cons.mpr ⟨rfl, fun _ h => nomatch h⟩⟩⟩) (Nat.le_of_ble_eq_true rfl) ?_
  have h8 := hW s hs
  refine e_aload_n (pc := 0) d_md_put_0 rfl ?_
  refine e_get (pc := 1) d_md_put_1 fl_md_66 md_g42 rfl ?_
  refine e_iload_n (pc := 4) d_md_put_4 rfl ?_
  refine e_naldN (pc := 5) d_md_put_5 (f := (W.2.2.2)) md_g60 (by omega) (by decide) ?_
  refine e_bipush (pc := 6) d_md_put_6 (v := (nI (8))) rfl ?_
  refine e_icmp_neN (pc := 8) (tgt := 12) d_md_put_8 (by decide) (by omega) (by decide) (fun c => ?_) (fun c => ?_)
  · refine e_aload_n (pc := 12) d_md_put_12 rfl ?_
    refine e_get (pc := 13) d_md_put_13 fl_md_63 md_g42 rfl ?_
    refine e_bipush (pc := 16) d_md_put_16 (v := (nI (8))) rfl ?_
    refine e_iload_n (pc := 18) d_md_put_18 rfl ?_
    refine e_imulN (pc := 19) d_md_put_19  ?_
    refine e_aload_n (pc := 20) d_md_put_20 rfl ?_
    refine e_get (pc := 21) d_md_put_21 fl_md_66 md_g42 rfl ?_
    refine e_iload_n (pc := 24) d_md_put_24 rfl ?_
    refine e_naldN (pc := 25) d_md_put_25 (f := (W.2.2.2)) md_g60 (by omega) (by decide) ?_
    refine e_iaddN (pc := 26) d_md_put_26  ?_
    refine e_iload_n (pc := 27) d_md_put_27 rfl ?_
    refine e_iastN (pc := 28) d_md_put_28 md_g59 (by omega) (by decide) ?_
    rw [md_u59]
    show q_Ev l G m_md_put 0 0 0 0 29 [some (.ref (42)), some (.int (nI (s))), some (.int (v))] [] (md_put h (((A.1), (A.2.1), (A.2.2.1), (A.2.2.2)), ((L.1), (L.2.1), (L.2.2.1), (L.2.2.2)), ((S.1), (S.2.1), (S.2.2.1), (S.2.2.2.1), (S.2.2.2.2)), ((C.1), (C.2.1), (C.2.2.1), (C.2.2.2.1), (C.2.2.2.2)), ((W.1), (W.2.1), (upd ((W.2.2.1)) (((8) * (s)) + (((W.2.2.2)) (s))) ((v))), (W.2.2.2)), ((T.1), (T.2.1), (T.2.2.1), (T.2.2.2.1), (T.2.2.2.2)))) N _
    refine e_aload_n (pc := 29) d_md_put_29 rfl ?_
    refine e_get (pc := 30) d_md_put_30 fl_md_66 md_g42 rfl ?_
    refine e_iload_n (pc := 33) d_md_put_33 rfl ?_
    refine e_dup2 (pc := 34) d_md_put_34 rfl rfl ?_
    refine e_naldN (pc := 35) d_md_put_35 (f := (W.2.2.2)) md_g60 (by omega) (by decide) ?_
    refine e_iconst (pc := 36) d_md_put_36 (v := (nI (1))) rfl ?_
    refine e_iaddN (pc := 37) d_md_put_37  ?_
    refine e_nastN (pc := 38) d_md_put_38 (f := (W.2.2.2)) md_g60 (by omega) (by decide) ?_
    rw [md_u60]
    show q_Ev l G m_md_put 0 0 0 0 39 [some (.ref (42)), some (.int (nI (s))), some (.int (v))] [] (md_put h (((A.1), (A.2.1), (A.2.2.1), (A.2.2.2)), ((L.1), (L.2.1), (L.2.2.1), (L.2.2.2)), ((S.1), (S.2.1), (S.2.2.1), (S.2.2.2.1), (S.2.2.2.2)), ((C.1), (C.2.1), (C.2.2.1), (C.2.2.2.1), (C.2.2.2.2)), ((W.1), (W.2.1), (upd ((W.2.2.1)) (((8) * (s)) + (((W.2.2.2)) (s))) ((v))), (va_up ((W.2.2.2)) (s) ((((W.2.2.2)) (s)) + (1)))), ((T.1), (T.2.1), (T.2.2.1), (T.2.2.2.1), (T.2.2.2.2)))) N _
    exact e_vret (pc := 39) d_md_put_39 rfl (⟨rfl, by rw [pW, if_neg c], rfl⟩)
  · exact e_vret (pc := 11) d_md_put_11 rfl (⟨rfl, by rw [pW, if_pos c], rfl⟩)
