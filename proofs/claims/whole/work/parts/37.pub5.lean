/-! THE CLASS'S PUBLIC METHODS (5): elect, create -/
def z_lb (R : zR) (n b : Nat) : Bool := decide (v_ag (z_V R b) < v_ag (z_V R n) ∨ v_ag (z_V R n) = v_ag (z_V R b) ∧ v_ln (z_V R b) < v_ln (z_V R n))
def elB (R : zR) (n : Nat) : Option Nat → Option Nat
  | none => some n
  | some b => if z_lb R n b = true then some n else some b
def elK (R : zR) : Nat → Nat × Option Nat
  | 0 => (0, none)
  | n + 1 => if z_on R n = true then ((elK R n).1 + 1, elB R n (elK R n).2) else elK R n
theorem elK_lt (R : zR) : ∀ n b, (elK R n).2 = some b → b < n := by
  intro n
  induction n with
  | zero => intro b h; cases h
  | succ n ih =>
    intro b h
    unfold elK at h
    split at h
    · dsimp only at h
      cases hb : (elK R n).2 with
      | none => rw [hb] at h; cases h; omega
      | some c =>
        rw [hb] at h
        unfold elB at h
        dsimp only at h
        split at h
        · cases h; omega
        · cases h; have := ih _ hb; omega
    · have := ih b h; omega
theorem elK_le (R : zR) : ∀ n, (elK R n).1 ≤ n := by
  intro n
  induction n with
  | zero => exact Nat.le_refl _
  | succ n ih =>
    unfold elK
    split
    · show (elK R n).1 + 1 ≤ n + 1; omega
    · omega
def z_el1 (k : Nat) (R : zR) : zR := z_s0 R (some k) (z_ep R + 1) (z_tm R)
def z_el0 (k : Nat) (x : zX) : zX := x_sp (x_sR x (z_sP (z_el1 k (x_R x)) (plK (x_E x) k (z_el1 k (x_R x)) (v_ln (z_V (x_R x) k)))))
def z_elect (x : zX) : zO := if 2 ≤ (elK (x_R x) 3).1 then match (elK (x_R x) 3).2 with
    | none => (.inr ISE, x)
    | some k => (zI (nI k), x_cd (z_el0 k x))
  else (.inr ISE, x)
theorem zOK_sP {h : q_H} {E : Nat → zE} {R : zR} (hO : zOK h E R) (t : zT) : zOK h E (z_sP R t) := hO
set_option maxHeartbeats 4000000 in
set_option maxRecDepth 100000 in
theorem lp_zs_elect {l : Launch} {G : q_G} (htr : l.stackTraces = false) {h : q_H} {N : Nat} {R : zR} {E : Nat → zE} (hO : zOK h E R) {Q : q_Q} (kk : q_Ev l G m_zs_elect 6 136 16 96 57 [some (.ref 1), some (.int (nI (elK R 3).1)), some (.int (ldI (elK R 3).2)), none] [] (zs_put h R) N Q) : ∀ (g n : Nat), 3 < n + g → n ≤ 3 → q_Ev l G m_zs_elect 6 136 16 96 6 [some (.ref (1)), some (.int (nI ((elK R n).1))), some (.int (ldI (elK R n).2)), some (.int (nI (n)))] [] (zs_put h R) N Q := by
  intro g
  induction g with
  | zero => intro n hg hn; omega
  | succ g ih =>
    intro n hg hn
    have hle := elK_le R n
    have hbk : ∀ i, (elK R n).2 = some i → i < 3 := fun i hi => by have := elK_lt R n i hi; omega
    refine e_iload_n (pc := 6) d_zs_elect_6 rfl ?_
    refine e_iconst (pc := 7) d_zs_elect_7 (v := (nI (3))) rfl ?_
    refine e_icmp_geN (pc := 8) (tgt := 57) d_zs_elect_8 (by decide) (by omega) (by omega) (fun c => ?_) (fun c => ?_)
    · have hn4 : n = 3 := by omega
      subst hn4
      exact q_Ev.fo [some (.ref 1), some (.int (nI (elK R 3).1)), some (.int (ldI (elK R 3).2)), none] ⟨rfl, rfl, rfl, trivial⟩ kk
    · refine e_aload_n (pc := 11) d_zs_elect_11 rfl ?_
      refine e_get (pc := 12) d_zs_elect_12 fl_zs_11 zs_g1 rfl ?_
      refine e_iload_n (pc := 15) d_zs_elect_15 rfl ?_
      refine e_aaldN (pc := 16) d_zs_elect_16 zs_g2 (fun _ => rfl) (by omega) (by decide) rfl ?_
      refine e_callV (As := []) (st := []) (cc2 := 16) (ss2 := 96) (pc := 17) d_zs_elect_17 rfl cv_zs_191 (zs_v c).1 rfl (c_sv_isOnline htr (zs_v c)) rfl (by decide) (by decide) (by omega) (by omega) (Nat.le_of_ble_eq_true rfl) (fun _ _ _ hq => nomatch hq.1) (fun r h2 N2 hq => ?_)
      obtain ⟨hr, e1, e2⟩ := hq
      cases hr
      rw [e1, e2]
      clear e1 e2
      show q_Ev l G m_zs_elect 6 136 16 96 20 [some (.ref (1)), some (.int (nI ((elK R n).1))), some (.int (ldI (elK R n).2)), some (.int (nI (n)))] [.int (bI (z_on R n))] (zs_put h R) N _
      refine e_ifB_eq (pc := 20) (tgt := 51) d_zs_elect_20 (by decide) (fun c2 => ?_) (fun c2 => ?_)
      · refine e_iincN (pc := 51) d_zs_elect_51 (a := n) (b := 1) rfl rfl (by decide) ?_
        refine e_goto (pc := 54) (tgt := 6) d_zs_elect_54 (by decide) ?_
        have e1 : elK R (n + 1) = elK R n := by rw [elK, if_neg (by rw [c2]; decide)]
        have := ih (n + 1) (by omega) (by omega)
        rw [e1] at this
        exact this
      · refine e_iincN (pc := 23) d_zs_elect_23 (a := (elK R n).1) (b := 1) rfl rfl (by decide) ?_
        refine e_iload_n (pc := 26) d_zs_elect_26 rfl ?_
        refine e_iconst (pc := 27) d_zs_elect_27 (v := (-1)) rfl ?_
        refine e_icmp_eq (pc := 28) (tgt := 49) d_zs_elect_28 (by decide) (fun c3 => ?_) (fun c3 => ?_)
        · have hb : (elK R n).2 = none := (ldI_m1 hbk).mp c3
          refine e_iload_n (pc := 49) d_zs_elect_49 rfl ?_
          refine e_istore_n (pc := 50) d_zs_elect_50 (by decide) ?_
          refine e_iincN (pc := 51) d_zs_elect_51 (a := n) (b := 1) rfl rfl (by decide) ?_
          refine e_goto (pc := 54) (tgt := 6) d_zs_elect_54 (by decide) ?_
          have e1 : elK R (n + 1) = ((elK R n).1 + 1, some n) := by rw [elK, if_pos c2, hb]; rfl
          have := ih (n + 1) (by omega) (by omega)
          rw [e1] at this
          exact this
        · obtain ⟨b, hb⟩ : ∃ b, (elK R n).2 = some b := by cases hx : (elK R n).2 with | none => exact absurd (by rw [hx]; rfl) c3 | some k => exact ⟨k, rfl⟩
          have hb3 := hbk b hb
          refine e_aload_n (pc := 31) d_zs_elect_31 rfl ?_
          refine e_get (pc := 32) d_zs_elect_32 fl_zs_11 zs_g1 rfl ?_
          refine e_iload_n (pc := 35) d_zs_elect_35 rfl ?_
          refine e_aaldN (pc := 36) d_zs_elect_36 zs_g2 (fun _ => rfl) (by omega) (by decide) rfl ?_
          refine e_aload_n (pc := 37) d_zs_elect_37 rfl ?_
          refine e_get (pc := 38) d_zs_elect_38 fl_zs_11 zs_g1 rfl ?_
          refine e_iload_n (pc := 41) d_zs_elect_41 rfl ?_
          rw [show (.int (ldI (elK R n).2) : Value) = .int (nI b) by rw [hb]; rfl]
          refine e_aaldN (pc := 42) d_zs_elect_42 zs_g2 (fun _ => rfl) (by omega) (by decide) rfl ?_
          have u1 := (hO.2.2.2 n c).2.2
          have u2 := (hO.2.2.2 b hb3).2.2
          have u3 := (hO.2.2.2 n c).1.1
          have u4 := (hO.2.2.2 b hb3).1.1
          refine e_callV (As := [.ref (9 + 7 * (b))]) (st := []) (cc2 := 16) (ss2 := 96) (pc := 43) d_zs_elect_43 rfl cv_zs_194 (zs_v c).1 rfl (c_sv_leadsBefore htr (zs_v c) (zs_v hb3) (by omega) (by omega) (by omega) (by omega)) rfl (by decide) (by decide) (by omega) (by omega) (Nat.le_of_ble_eq_true rfl) (fun _ _ _ hq => nomatch hq.1) (fun r h2 N2 hq => ?_)
          obtain ⟨hr, e1, e2⟩ := hq
          cases hr
          rw [e1, e2]
          clear e1 e2
          show q_Ev l G m_zs_elect 6 136 16 96 46 [some (.ref (1)), some (.int (nI ((elK R n).1 + 1))), some (.int (nI (b))), some (.int (nI (n)))] [.int (bI (z_lb R n b))] (zs_put h R) N _
          refine e_ifB_eq (pc := 46) (tgt := 51) d_zs_elect_46 (by decide) (fun c4 => ?_) (fun c4 => ?_)
          · refine e_iincN (pc := 51) d_zs_elect_51 (a := n) (b := 1) rfl rfl (by decide) ?_
            refine e_goto (pc := 54) (tgt := 6) d_zs_elect_54 (by decide) ?_
            have e1 : elK R (n + 1) = ((elK R n).1 + 1, some b) := by rw [elK, if_pos c2, hb]; simp only [elB]; rw [if_neg (by rw [c4]; decide)]
            have := ih (n + 1) (by omega) (by omega)
            rw [e1] at this
            exact this
          · refine e_iload_n (pc := 49) d_zs_elect_49 rfl ?_
            refine e_istore_n (pc := 50) d_zs_elect_50 (by decide) ?_
            refine e_iincN (pc := 51) d_zs_elect_51 (a := n) (b := 1) rfl rfl (by decide) ?_
            refine e_goto (pc := 54) (tgt := 6) d_zs_elect_54 (by decide) ?_
            have e1 : elK R (n + 1) = ((elK R n).1 + 1, some n) := by rw [elK, if_pos c2, hb]; simp only [elB]; rw [if_pos c4]
            have := ih (n + 1) (by omega) (by omega)
            rw [e1] at this
            exact this
set_option maxHeartbeats 4000000 in
set_option maxRecDepth 100000 in
theorem c_zs_elect {l : Launch} {G : q_G} (htr : l.stackTraces = false) {x : zX}  (hx : xOK x) (hep : z_ep (x_R x) + 1 < 100000) (hc : ∀ k, k < 3 → clOK 4 0 (z_el0 k x)) : q_Met l G m_zs_elect 6 136 16 96 [.ref (1)] (zs_put (x_h x) (x_R x)) (x_N x) (q_Z (z_elect x)) := by
  obtain ⟨r, hr0⟩ : ∃ r, r = z_elect x := ⟨_, rfl⟩
  rw [← hr0]
  refine q_Met.mk htr (by decide +kernel) rfl (List.forall_mem_cons.mpr ⟨rfl, fun _ h => nomatch h⟩) (Nat.le_of_ble_eq_true rfl) ?_
  refine e_iconst (pc := 0) d_zs_elect_0 (v := (nI (0))) rfl ?_
  refine e_istore_n (pc := 1) d_zs_elect_1 (by decide) ?_
  refine e_iconst (pc := 2) d_zs_elect_2 (v := (-1)) rfl ?_
  refine e_istore_n (pc := 3) d_zs_elect_3 (by decide) ?_
  refine e_iconst (pc := 4) d_zs_elect_4 (v := (nI (0))) rfl ?_
  refine e_istore_n (pc := 5) d_zs_elect_5 (by decide) ?_
  refine lp_zs_elect htr hx.1 ?_ 4 0 (by omega) (by omega)
  have hle := elK_le (x_R x) 3
  have hbk : ∀ i, (elK (x_R x) 3).2 = some i → i < 3 := elK_lt (x_R x) 3
  refine e_iload_n (pc := 57) d_zs_elect_57 rfl ?_
  refine e_iconst (pc := 58) d_zs_elect_58 (v := (nI (2))) rfl ?_
  refine e_icmp_ltN (pc := 59) (tgt := 67) d_zs_elect_59 (by decide) (by omega) (by omega) (fun c => ?_) (fun c => ?_)
  · exact e_throw (pc := 67) rfl xx_zs_66 d_zs_elect_67 d_zs_elect_70 d_zs_elect_71 d_zs_elect_74 (by decide) (Nat.le_of_ble_eq_true rfl) (by omega) (by omega) (fun N2 hN => by rw [hr0]; unfold z_elect; rw [if_neg (by omega)]; exact ⟨rfl, rfl, hN⟩)
  · refine e_iload_n (pc := 62) d_zs_elect_62 rfl ?_
    refine e_iconst (pc := 63) d_zs_elect_63 (v := (-1)) rfl ?_
    refine e_icmp_ne (pc := 64) (tgt := 75) d_zs_elect_64 (by decide) (fun c2 => ?_) (fun c2 => ?_)
    · obtain ⟨k, hb⟩ : ∃ b, (elK (x_R x) 3).2 = some b := by cases hx : (elK (x_R x) 3).2 with | none => exact absurd (by rw [hx]; rfl) c2 | some k => exact ⟨k, rfl⟩
      have hk := hbk k hb
      have hr1 : r = (zI (nI k), x_cd (z_el0 k x)) := by rw [hr0]; unfold z_elect; rw [if_pos c, hb]
      rw [hb]
      refine e_aload_n (pc := 75) d_zs_elect_75 rfl ?_
      refine e_iload_n (pc := 76) d_zs_elect_76 rfl ?_
      refine e_putE (pc := 77) (fs2 := [.ref 2, .ref 3, .ref 4, .int (ldI (some k)), .int (nI (z_ep (x_R x))), .int (z_tm (x_R x))]) d_zs_elect_77 fl_zs_28 zs_g1 (Nat.le_of_ble_eq_true rfl) (fun _ => rfl) (fun _ => rfl) rfl ?_
      rw [zs_u1]
      refine e_aload_n (pc := 80) d_zs_elect_80 rfl ?_
      refine e_dup (pc := 81) d_zs_elect_81 rfl ?_
      refine e_get (pc := 82) d_zs_elect_82 fl_zs_32 (zs_g1 (R := (z_s0 (x_R x) (some k) (z_ep (x_R x)) (z_tm (x_R x))))) rfl ?_
      refine e_iconst (pc := 85) d_zs_elect_85 (v := (nI (1))) rfl ?_
      refine e_iaddN (pc := 86) d_zs_elect_86  ?_
      refine e_putE (pc := 87) (fs2 := [.ref 2, .ref 3, .ref 4, .int (ldI (some k)), .int (nI (z_ep (x_R x) + 1)), .int (z_tm (x_R x))]) d_zs_elect_87 fl_zs_32 (zs_g1 (R := (z_s0 (x_R x) (some k) (z_ep (x_R x)) (z_tm (x_R x))))) (Nat.le_of_ble_eq_true rfl) (fun _ => rfl) (fun _ => rfl) rfl ?_
      rw [zs_u1]
      refine q_Ev.hp (h1 := zs_put (x_h x) (z_el1 k (x_R x))) rfl ?_
      have hO1 : zOK (x_h x) (x_E x) (z_el1 k (x_R x)) := zOK_s0 hx.1 _ (fun i hi => by cases hi; exact hk) hep
      refine e_aload_n (pc := 90) d_zs_elect_90 rfl ?_
      refine e_aload_n (pc := 91) d_zs_elect_91 rfl ?_
      refine e_get (pc := 92) d_zs_elect_92 fl_zs_11 zs_g1 rfl ?_
      refine e_iload_n (pc := 95) d_zs_elect_95 rfl ?_
      show q_Ev l G m_zs_elect 6 136 16 96 96 [some (.ref (1)), some (.int (nI ((elK (x_R x) 3).1))), some (.int (nI (k))), none] [.int (nI (k)), .ref (2), .ref (1)] (zs_put (x_h x) (z_el1 k (x_R x))) (x_N x) _
      refine e_aaldN (pc := 96) d_zs_elect_96 zs_g2 (fun _ => rfl) (by omega) (by decide) rfl ?_
      refine e_callV (As := [.ref (9 + 7 * (k))]) (st := []) (cc2 := 16) (ss2 := 96) (pc := 97) d_zs_elect_97 rfl cv_zs_198 zs_g1 rfl (c_zs_planAnew htr hk (hO1.2.2.2 k hk).1) rfl (by decide) (by decide) (by omega) (by omega) (Nat.le_of_ble_eq_true rfl) (fun _ _ _ hq => nomatch hq.1) (fun r h2 N2 hq => ?_)
      obtain ⟨hr, e1, e2⟩ := hq
      cases hr
      rw [e1, e2]
      clear e1 e2
      show q_Ev l G m_zs_elect 6 136 16 96 100 [some (.ref (1)), some (.int (nI ((elK (x_R x) 3).1))), some (.int (nI (k))), none] [] _ (x_N x) _
      refine e_aload_n (pc := 100) d_zs_elect_100 rfl ?_
      refine e_callV (As := []) (st := []) (cc2 := 16) (ss2 := 96) (pc := 101) d_zs_elect_101 rfl cv_zs_182 zs_g1 rfl (c_zs_spread htr (zOK_sP hO1 _)) rfl (by decide) (by decide) (by omega) (by omega) (Nat.le_of_ble_eq_true rfl) (fun _ _ _ hq => nomatch hq.1) (fun r h2 N2 hq => ?_)
      obtain ⟨hr, e1, e2⟩ := hq
      cases hr
      rw [e1, e2]
      clear e1 e2
      show q_Ev l G m_zs_elect 6 136 16 96 104 [some (.ref (1)), some (.int (nI ((elK (x_R x) 3).1))), some (.int (nI (k))), none] [] _ (x_N x) _
      obtain ⟨y, hy⟩ : ∃ y, y = z_el0 k x := ⟨_, rfl⟩
      have hxy : xOK y := by rw [hy]; exact xOK_sp ⟨zOK_sP hO1 _, hx.2⟩
      rw [← hy] at hr1
      have hcy : clOK 4 0 y := by rw [hy]; exact hc k hk
      refine q_Ev.hp (h1 := zs_put (x_h y) (x_R y)) (by rw [hy]; rfl) ?_
      have eN : x_N x = x_N y := by rw [hy]; rfl
      rw [eN]
      refine e_aload_n (pc := 104) d_zs_elect_104 rfl ?_
      refine e_callV (As := []) (st := []) (cc2 := 12) (ss2 := 76) (pc := 105) d_zs_elect_105 rfl cv_zs_85 zs_g1 rfl (c_zs_closeDue htr hxy hcy) rfl (by decide) (by decide) (by omega) (by omega) (Nat.le_of_ble_eq_true rfl) (fun _ _ _ hq => nomatch hq.1) (fun r h2 N2 hq => ?_)
      obtain ⟨hr, e1, e2⟩ := hq
      cases hr
      rw [e1, e2]
      clear e1 e2
      show q_Ev l G m_zs_elect 6 136 12 76 108 [some (.ref (1)), some (.int (nI ((elK (x_R x) 3).1))), some (.int (nI (k))), none] [] _ _ _
      refine e_iload_n (pc := 108) d_zs_elect_108 rfl ?_
      exact e_iret (pc := 109) d_zs_elect_109 rfl (by rw [hr1]; exact ⟨rfl, rfl, Nat.le_refl _⟩)
    · have hb := (ldI_m1 hbk).mp c2
      exact e_throw (pc := 67) rfl xx_zs_66 d_zs_elect_67 d_zs_elect_70 d_zs_elect_71 d_zs_elect_74 (by decide) (Nat.le_of_ble_eq_true rfl) (by omega) (by omega) (fun N2 hN => by rw [hr0]; unfold z_elect; rw [if_pos c, hb]; exact ⟨rfl, rfl, hN⟩)
theorem and2_0 {f : Nat} (h : f < 4) : (nI f &&& nI 2 = 0) ↔ f < 2 := by
  rcases (by omega : f = 0 ∨ f = 1 ∨ f = 2 ∨ f = 3) with rfl | rfl | rfl | rfl <;> decide
theorem and1_0 {f : Nat} (h : f < 4) : (nI f &&& nI 1 = 0) ↔ f % 2 = 0 := by
  rcases (by omega : f = 0 ∨ f = 1 ∨ f = 2 ∨ f = 3) with rfl | rfl | rfl | rfl <;> decide
/-- the tests of a CREATE of the node md below par, by PLANNED; sq: in sequence -/
def z_cr2 (j par md : Nat) (sq : Bool) (d : Int32) (ow : Int32) (x : zX) : zO := if (z_P (x_R x)).2.1 md ≠ -1 then (.inr IOB, x) else z_prop (0, md, d, ow, sq) (fun _ => nI md) x
def z_cr1 (j par : Nat) (md : Nat) (sq : Bool) (d : Int32) (ow : Int32) (x : zX) : zO := if (z_P (x_R x)).2.1 par ≠ -1 then if (z_P (x_R x)).2.2.1 par ≠ -1 ∨ (sq = true ∧ ¬ (z_P (x_R x)).2.2.2 par < nI 6) then (.inr UOE, x) else z_cr2 j par md sq d ow x else (.inr NSE, x)
def z_create (s q d f : Int32) (x : zX) : zO := if (nI 0 ≤ s ∧ s ≤ nI 3) ∧ (nI 0 ≤ f ∧ f ≤ nI 3) ∧ (if 2 ≤ nT f then nI 0 ≤ q ∧ q ≤ nI (43 - 1) else nI 1 ≤ q ∧ q ≤ nI (259 - 1)) then if z_rc (x_R x) (nT s) = true then if 2 ≤ nT f then z_cr1 (nT s) (nT q) (6 * nT q + nT ((z_P (x_R x)).2.2.2 (nT q)) + 1) true d (if nT f % 2 = 0 then -1 else s) x else z_cr1 (nT s) ((nT q - 1) / 6) (nT q) false d (if nT f % 2 = 0 then -1 else s) x else (.inr ISE, x) else (.inr IAE, x)
set_option maxHeartbeats 4000000 in
set_option maxRecDepth 100000 in
theorem c_zs_create {l : Launch} {G : q_G} (htr : l.stackTraces = false) {x : zX} {s q dd f : Int32} (hx : xOK x) (hnx : ∀ p, p < 43 → ∃ m, m ≤ 6 ∧ (z_P (x_R x)).2.2.2 p = nI m) : q_Met l G m_zs_create 8 136 16 96 [.ref (1), .int (s), .int (q), .int (dd), .int (f)] (zs_put (x_h x) (x_R x)) (x_N x) (q_Z (z_create s q dd f x)) := by
  obtain ⟨r, hr0⟩ : ∃ r, r = z_create s q dd f x := ⟨_, rfl⟩
  rw [← hr0]
  refine q_Met.mk htr (by decide +kernel) rfl (List.forall_mem_cons.mpr ⟨rfl, List.forall_mem_cons.mpr ⟨rfl, List.forall_mem_cons.mpr ⟨rfl, List.forall_mem_cons.mpr ⟨rfl, List.forall_mem_cons.mpr ⟨rfl, fun _ h => nomatch h⟩⟩⟩⟩⟩) (Nat.le_of_ble_eq_true rfl) ?_
  refine e_iload_n (pc := 0) d_zs_create_0 rfl ?_
  refine e_callS (As := [.int (s)]) (st := []) (cc2 := 15) (ss2 := 90) (pc := 1) d_zs_create_1 rfl cs_zs_40 (c_zs_requireSession htr) rfl (by decide) (by decide) (by omega) (by omega) (Nat.le_of_ble_eq_true rfl) (fun _ _ _ hq => q_Z_bad (fun z => by rw [hr0]; unfold z_create; rw [if_neg (fun u => z u.1)]) hq (Nat.le_refl _)) (fun r h2 N2 hq => ?_)
  obtain ⟨e1, -, ⟨hok, hr, e2⟩ | ⟨-, hr⟩⟩ := hq; rotate_left; exact nomatch hr
  cases hr
  rw [e1, e2]
  clear e1 e2
  show q_Ev l G m_zs_create 8 136 15 90 4 [some (.ref (1)), some (.int (s)), some (.int (q)), some (.int (dd)), some (.int (f)), none, none, none, none] [] (zs_put (x_h x) (x_R x)) (x_N x) _
  have hok1 := hok
  refine e_iload (pc := 4) d_zs_create_4 rfl ?_
  refine e_iconst (pc := 6) d_zs_create_6 (v := (nI (0))) rfl ?_
  refine e_iconst (pc := 7) d_zs_create_7 (v := (nI (3))) rfl ?_
  refine e_callS (As := [.int (f), .int (nI (0)), .int (nI (3))]) (st := []) (cc2 := 14) (ss2 := 84) (pc := 8) d_zs_create_8 rfl cs_zs_47 (c_zs_requireRange htr) rfl (by decide) (by decide) (by omega) (by omega) (Nat.le_of_ble_eq_true rfl) (fun _ _ _ hq => q_Z_bad (fun z => by rw [hr0]; unfold z_create; rw [if_neg (fun u => z u.2.1)]) hq (Nat.le_refl _)) (fun r h2 N2 hq => ?_)
  obtain ⟨e1, -, ⟨hok, hr, e2⟩ | ⟨-, hr⟩⟩ := hq; rotate_left; exact nomatch hr
  cases hr
  rw [e1, e2]
  clear e1 e2
  show q_Ev l G m_zs_create 8 136 14 84 11 [some (.ref (1)), some (.int (s)), some (.int (q)), some (.int (dd)), some (.int (f)), none, none, none, none] [] (zs_put (x_h x) (x_R x)) (x_N x) _
  have hok2 := hok
  obtain ⟨j, hj, ej⟩ := q_ofL (n := 3) (by decide) hok1
  obtain ⟨f, hf4, ef⟩ := q_ofL (n := 3) (by decide) hok2
  subst ej ef
  have hs := (hx.1.2.1 j).1
  refine e_iload (pc := 11) d_zs_create_11 rfl ?_
  refine e_iconst (pc := 13) d_zs_create_13 (v := (nI (2))) rfl ?_
  refine e_iand (pc := 14) d_zs_create_14  ?_
  refine e_if_eq (pc := 15) (tgt := 22) d_zs_create_15 (by decide) (fun c0 => ?_) (fun c0 => ?_)
  · have hf2 : ¬ 2 ≤ f := by have := (and2_0 hf4).mp c0; omega
    refine e_iconst (pc := 22) d_zs_create_22 (v := (bI (false))) rfl ?_
    refine e_istore (pc := 23) d_zs_create_23 (by decide) ?_
    refine e_iload_n (pc := 25) d_zs_create_25 rfl ?_
    refine e_iload (pc := 26) d_zs_create_26 rfl ?_
    refine e_ifB_eq (pc := 28) (tgt := 35) d_zs_create_28 (by decide) (fun _ => ?_) (fun z => nomatch z)
    refine e_iconst (pc := 35) d_zs_create_35 (v := (nI (1))) rfl ?_
    refine e_iload (pc := 36) d_zs_create_36 rfl ?_
    refine e_ifB_eq (pc := 38) (tgt := 46) d_zs_create_38 (by decide) (fun _ => ?_) (fun z => nomatch z)
    refine e_sipush (pc := 46) d_zs_create_46 (v := (nI (259))) rfl ?_
    refine e_iconst (pc := 49) d_zs_create_49 (v := (nI (1))) rfl ?_
    refine e_isubN (pc := 50) d_zs_create_50 (by omega) ?_
    refine e_callS (As := [.int (q), .int (nI (1)), .int (nI ((259) - (1)))]) (st := []) (cc2 := 13) (ss2 := 78) (pc := 51) d_zs_create_51 rfl cs_zs_47 (c_zs_requireRange htr) rfl (by decide) (by decide) (by omega) (by omega) (Nat.le_of_ble_eq_true rfl) (fun _ _ _ hq => q_Z_bad (fun z => by rw [hr0]; unfold z_create; rw [if_neg (fun u => by have u2 := u.2.2; rw [nT_n (by omega), if_neg hf2] at u2; exact z u2)]) hq (Nat.le_refl _)) (fun r h2 N2 hq => ?_)
    obtain ⟨e1, -, ⟨hok, hr, e2⟩ | ⟨-, hr⟩⟩ := hq; rotate_left; exact nomatch hr
    cases hr
    rw [e1, e2]
    clear e1 e2
    show q_Ev l G m_zs_create 8 136 13 78 54 [some (.ref (1)), some (.int (nI (j))), some (.int (q)), some (.int (dd)), some (.int (nI (f))), some (.int (bI (false))), none, none, none] [] (zs_put (x_h x) (x_R x)) (x_N x) _
    have hok3 := hok
    obtain ⟨p, hp1, hp, ep⟩ := q_ofL1 (n := 259 - 1) (by decide) hok3
    subst ep
    unfold z_create at hr0
    rw [if_pos ⟨hok1, hok2, by rw [nT_n (by omega), if_neg hf2]; exact hok3⟩, nT_n (j := j) (by omega), nT_n (j := f) (by omega), nT_n (j := p) (by omega)] at hr0
    refine e_aload_n (pc := 54) d_zs_create_54 rfl ?_
    refine e_iload_n (pc := 55) d_zs_create_55 rfl ?_
    refine e_callV (As := [.int (nI (j))]) (st := []) (cc2 := 12) (ss2 := 72) (pc := 56) d_zs_create_56 rfl cv_zs_72 zs_g1 rfl (c_zs_requireReach htr hx.1.1 hj hs) rfl (by decide) (by decide) (by omega) (by omega) (Nat.le_of_ble_eq_true rfl) (fun _ _ _ hq => q_Z_bad (fun z => by rw [hr0, if_neg z]) hq (Nat.le_refl _)) (fun r h2 N2 hq => ?_)
    obtain ⟨e1, -, ⟨hok, hr, e2⟩ | ⟨-, hr⟩⟩ := hq; rotate_left; exact nomatch hr
    cases hr
    rw [e1, e2]
    clear e1 e2
    show q_Ev l G m_zs_create 8 136 12 72 59 [some (.ref (1)), some (.int (nI (j))), some (.int (nI (p))), some (.int (dd)), some (.int (nI (f))), some (.int (bI (false))), none, none, none] [] (zs_put (x_h x) (x_R x)) (x_N x) _
    rw [if_pos hok, if_neg hf2] at hr0
    refine e_iload (pc := 59) d_zs_create_59 rfl ?_
    refine e_ifB_eq (pc := 61) (tgt := 68) d_zs_create_61 (by decide) (fun _ => ?_) (fun z => nomatch z)
    refine e_iload_n (pc := 68) d_zs_create_68 rfl ?_
    refine e_callS (As := [.int (nI (p))]) (st := []) (cc2 := 12) (ss2 := 72) (pc := 69) d_zs_create_69 rfl cs_zs_106 (c_zs_parentOf htr hp1 (by omega)) rfl (by decide) (by decide) (by omega) (by omega) (Nat.le_of_ble_eq_true rfl) (fun _ _ _ hq => nomatch hq.1) (fun r h2 N2 hq => ?_)
    obtain ⟨hr, e1, e2⟩ := hq
    cases hr
    rw [e1, e2]
    clear e1 e2
    show q_Ev l G m_zs_create 8 136 12 72 72 [some (.ref (1)), some (.int (nI (j))), some (.int (nI (p))), some (.int (dd)), some (.int (nI (f))), some (.int (bI (false))), none, none, none] [.int (nI ((p - 1) / 6))] (zs_put (x_h x) (x_R x)) (x_N x) _
    refine e_istore (pc := 72) d_zs_create_72 (by decide) ?_
    refine e_aload_n (pc := 74) d_zs_create_74 rfl ?_
    refine e_get (pc := 75) d_zs_create_75 fl_zs_24 zs_g1 rfl ?_
    refine e_iload (pc := 78) d_zs_create_78 rfl ?_
    have hpar : (p - 1) / 6 < 43 := by omega
    refine e_callS (As := [.ref (4), .int (nI ((p - 1) / 6))]) (st := []) (cc2 := 11) (ss2 := 66) (pc := 80) d_zs_create_80 rfl cs_zs_109 (c_zs_requireNode htr (zs_tP (R := x_R x)) (p := (p - 1) / 6) (by omega)) rfl (by decide) (by decide) (by omega) (by omega) (Nat.le_of_ble_eq_true rfl) (fun _ _ _ hq => q_Z_bad (fun z => by rw [hr0]; unfold z_cr1; rw [if_neg z]) hq (Nat.le_refl _)) (fun r h2 N2 hq => ?_)
    obtain ⟨e1, -, ⟨hok, hr, e2⟩ | ⟨-, hr⟩⟩ := hq; rotate_left; exact nomatch hr
    cases hr
    rw [e1, e2]
    clear e1 e2
    show q_Ev l G m_zs_create 8 136 11 66 83 [some (.ref (1)), some (.int (nI (j))), some (.int (nI (p))), some (.int (dd)), some (.int (nI (f))), some (.int (bI (false))), some (.int (nI ((p - 1) / 6))), none, none] [] (zs_put (x_h x) (x_R x)) (x_N x) _
    unfold z_cr1 at hr0
    rw [if_pos hok] at hr0
    refine e_aload_n (pc := 83) d_zs_create_83 rfl ?_
    refine e_get (pc := 84) d_zs_create_84 fl_zs_24 zs_g1 rfl ?_
    refine e_get (pc := 87) d_zs_create_87 fl_zs_113 (zs_tP (R := x_R x)).1 rfl ?_
    refine e_iload (pc := 90) d_zs_create_90 rfl ?_
    refine e_ialdN (pc := 92) d_zs_create_92 (zs_tP (R := x_R x)).2.2.2.1 (by omega) (by decide) ?_
    refine e_iconst (pc := 93) d_zs_create_93 (v := (-1)) rfl ?_
    refine e_icmp_ne (pc := 94) (tgt := 117) d_zs_create_94 (by decide) (fun c1 => ?_) (fun c1 => ?_)
    · exact e_throw (pc := 117) rfl xx_zs_120 d_zs_create_117 d_zs_create_120 d_zs_create_121 d_zs_create_124 (by decide) (Nat.le_of_ble_eq_true rfl) (by omega) (by omega) (fun N2 hN => by rw [hr0, if_pos (Or.inl c1)]; exact ⟨rfl, rfl, hN⟩)
    · refine e_iload (pc := 97) d_zs_create_97 rfl ?_
      refine e_ifB_eq (pc := 99) (tgt := 125) d_zs_create_99 (by decide) (fun _ => ?_) (fun z => nomatch z)
      rw [if_neg (fun w => w.elim (fun u => u c1) (fun u => nomatch u.1))] at hr0
      refine e_iload (pc := 125) d_zs_create_125 rfl ?_
      refine e_ifB_eq (pc := 127) (tgt := 148) d_zs_create_127 (by decide) (fun _ => ?_) (fun z => nomatch z)
      unfold z_cr2 at hr0
      refine e_iload_n (pc := 148) d_zs_create_148 rfl ?_
      refine e_istore (pc := 149) d_zs_create_149 (by decide) ?_
      refine e_aload_n (pc := 151) d_zs_create_151 rfl ?_
      refine e_get (pc := 152) d_zs_create_152 fl_zs_24 zs_g1 rfl ?_
      refine e_iload (pc := 155) d_zs_create_155 rfl ?_
      refine e_callV (As := [.int (nI (p))]) (st := []) (cc2 := 11) (ss2 := 66) (pc := 157) d_zs_create_157 rfl cv_zs_127 (zs_tP (R := x_R x)).1 rfl (c_tr_has htr (zs_tP (R := x_R x)) (p := p) (by omega)) rfl (by decide) (by decide) (by omega) (by omega) (Nat.le_of_ble_eq_true rfl) (fun _ _ _ hq => nomatch hq.1) (fun r h2 N2 hq => ?_)
      obtain ⟨hr, e1, e2⟩ := hq
      cases hr
      rw [e1, e2]
      clear e1 e2
      show q_Ev l G m_zs_create 8 136 11 66 160 [some (.ref (1)), some (.int (nI (j))), some (.int (nI (p))), some (.int (dd)), some (.int (nI (f))), some (.int (bI (false))), some (.int (nI ((p - 1) / 6))), some (.int (nI (p))), none] [.int (bI (decide ((z_P (x_R x)).2.1 (p) ≠ -1)))] (zs_put (x_h x) (x_R x)) (x_N x) _
      refine e_ifB_eq (pc := 160) (tgt := 171) d_zs_create_160 (by decide) (fun c3 => ?_) (fun c3 => ?_)
      · rw [if_neg (of_decide_eq_false c3)] at hr0
        refine e_fresh (fun hfs _ => ?_)
        have hNn : 41 < x_N x + 1 := Nat.lt_succ_of_le hx.2
        have hfr : x_h x (x_N x + 1) = none := (zs_hi hNn).symm.trans (hfs _ (Nat.lt_succ_self _))
        refine e_iload (pc := 171) d_zs_create_171 rfl ?_
        refine e_iconst (pc := 173) d_zs_create_173 (v := (nI (1))) rfl ?_
        refine e_iand (pc := 174) d_zs_create_174  ?_
        refine e_if_eq (pc := 175) (tgt := 182) d_zs_create_175 (by decide) (fun c4 => ?_) (fun c4 => ?_)
        · rw [if_pos ((and1_0 hf4).mp c4)] at hr0
          refine e_iconst (pc := 182) d_zs_create_182 (v := (-1)) rfl ?_
          refine e_istore (pc := 183) d_zs_create_183 (by decide) ?_
          refine e_aload_n (pc := 185) d_zs_create_185 rfl ?_
          refine e_new (pc := 186) (cc' := 10) (ss' := 61) d_zs_create_186 nw_zs_133 (by omega) (by omega) ?_
          rw [zs_uh (by omega)]
          refine e_dup (pc := 189) d_zs_create_189 rfl ?_
          refine e_iconst (pc := 190) d_zs_create_190 (v := (nI (0))) rfl ?_
          refine e_iload (pc := 191) d_zs_create_191 rfl ?_
          refine e_iload_n (pc := 193) d_zs_create_193 rfl ?_
          refine e_iload (pc := 194) d_zs_create_194 rfl ?_
          refine e_iload (pc := 196) d_zs_create_196 rfl ?_
          refine e_callI (b := x_N x + 1) (As := [.int (nI (0)), .int (nI (p)), .int (dd), .int (-1), .int (bI (false))]) (st := [.ref (x_N x + 1), .ref (1)]) (cc2 := 10) (ss2 := 61) (pc := 198) d_zs_create_198 ci_zs_135 (c_en_init htr ((zs_hi (by omega)).trans (q_up_s _ _ _))) rfl (by decide) (by decide) (by omega) (by omega) (Nat.le_of_ble_eq_true rfl) (fun _ _ _ hq => nomatch hq.1) (fun r h2 N2 hq => ?_)
          obtain ⟨hr, e1, e2⟩ := hq
          cases hr
          rw [e1, e2]
          clear e1 e2
          show q_Ev l G m_zs_create 8 136 10 61 201 [some (.ref (1)), some (.int (nI (j))), some (.int (nI (p))), some (.int (dd)), some (.int (nI (f))), some (.int (bI (false))), some (.int (nI ((p - 1) / 6))), some (.int (nI (p))), some (.int (-1))] [.ref (x_N x + 1), .ref (1)] _ (x_N x + 1) _
          rw [zs_uh (by omega), q_up_up]
          show q_Ev l G m_zs_create 8 136 10 61 201 [some (.ref (1)), some (.int (nI (j))), some (.int (nI (p))), some (.int (dd)), some (.int (nI (f))), some (.int (bI (false))), some (.int (nI ((p - 1) / 6))), some (.int (nI (p))), some (.int (-1))] [.ref (x_N x + 1), .ref (1)] (zs_put (q_up (x_h x) (x_N x + 1) (en_ob (0, p, (dd), (-1), false))) (x_R x)) (x_N x + 1) _
          refine e_callV (As := [.ref (x_N x + 1)]) (st := []) (cc2 := 9) (ss2 := 55) (pc := 201) d_zs_create_201 rfl cv_zs_138 zs_g1 rfl (c_zs_propose htr hx hfr (e := (0, p, (dd), (-1), false)) ⟨Nat.zero_le _, fun _ => by show p < 259; omega, fun _ => by show 1 ≤ p; omega, fun z => absurd z (by show ¬ 0 = 2; decide)⟩) rfl (by decide) (by decide) (by omega) (by omega) (Nat.le_of_ble_eq_true rfl) (fun _ _ _ hq => q_Z_pr hr0 hq) (fun r h2 N2 hq => ?_)
          obtain ⟨-, ⟨-, -, hr⟩ | ⟨hful, e1, ⟨hqr, hr, e2⟩ | ⟨-, hr⟩⟩⟩ := hq; exact nomatch hr; rotate_left; exact nomatch hr
          cases hr
          rw [e1, e2]
          clear e1 e2
          show q_Ev l G m_zs_create 8 136 9 55 204 [some (.ref (1)), some (.int (nI (j))), some (.int (nI (p))), some (.int (dd)), some (.int (nI (f))), some (.int (bI (false))), some (.int (nI ((p - 1) / 6))), some (.int (nI (p))), some (.int (-1))] [] _ (x_N x + 1) _
          obtain ⟨y, hy⟩ : ∃ y, y = x_pr (0, p, (dd), (-1), false) x := ⟨_, rfl⟩
          unfold z_prop at hr0
          rw [if_neg (by rw [hful]; decide), if_pos hqr, ← hy] at hr0
          rw [← hy]
          have eN : x_N x + 1 = x_N y := by rw [hy]; rfl
          rw [eN]
          refine e_iload (pc := 204) d_zs_create_204 rfl ?_
          exact e_iret (pc := 206) d_zs_create_206 rfl (by rw [hr0]; exact ⟨rfl, rfl, Nat.le_refl _⟩)
        · rw [if_neg (mt (and1_0 hf4).mpr c4)] at hr0
          refine e_iload_n (pc := 178) d_zs_create_178 rfl ?_
          refine e_goto (pc := 179) (tgt := 183) d_zs_create_179 (by decide) ?_
          refine e_istore (pc := 183) d_zs_create_183 (by decide) ?_
          refine e_aload_n (pc := 185) d_zs_create_185 rfl ?_
          refine e_new (pc := 186) (cc' := 10) (ss' := 61) d_zs_create_186 nw_zs_133 (by omega) (by omega) ?_
          rw [zs_uh (by omega)]
          refine e_dup (pc := 189) d_zs_create_189 rfl ?_
          refine e_iconst (pc := 190) d_zs_create_190 (v := (nI (0))) rfl ?_
          refine e_iload (pc := 191) d_zs_create_191 rfl ?_
          refine e_iload_n (pc := 193) d_zs_create_193 rfl ?_
          refine e_iload (pc := 194) d_zs_create_194 rfl ?_
          refine e_iload (pc := 196) d_zs_create_196 rfl ?_
          refine e_callI (b := x_N x + 1) (As := [.int (nI (0)), .int (nI (p)), .int (dd), .int (nI (j)), .int (bI (false))]) (st := [.ref (x_N x + 1), .ref (1)]) (cc2 := 10) (ss2 := 61) (pc := 198) d_zs_create_198 ci_zs_135 (c_en_init htr ((zs_hi (by omega)).trans (q_up_s _ _ _))) rfl (by decide) (by decide) (by omega) (by omega) (Nat.le_of_ble_eq_true rfl) (fun _ _ _ hq => nomatch hq.1) (fun r h2 N2 hq => ?_)
          obtain ⟨hr, e1, e2⟩ := hq
          cases hr
          rw [e1, e2]
          clear e1 e2
          show q_Ev l G m_zs_create 8 136 10 61 201 [some (.ref (1)), some (.int (nI (j))), some (.int (nI (p))), some (.int (dd)), some (.int (nI (f))), some (.int (bI (false))), some (.int (nI ((p - 1) / 6))), some (.int (nI (p))), some (.int (nI (j)))] [.ref (x_N x + 1), .ref (1)] _ (x_N x + 1) _
          rw [zs_uh (by omega), q_up_up]
          show q_Ev l G m_zs_create 8 136 10 61 201 [some (.ref (1)), some (.int (nI (j))), some (.int (nI (p))), some (.int (dd)), some (.int (nI (f))), some (.int (bI (false))), some (.int (nI ((p - 1) / 6))), some (.int (nI (p))), some (.int (nI (j)))] [.ref (x_N x + 1), .ref (1)] (zs_put (q_up (x_h x) (x_N x + 1) (en_ob (0, p, (dd), (nI (j)), false))) (x_R x)) (x_N x + 1) _
          refine e_callV (As := [.ref (x_N x + 1)]) (st := []) (cc2 := 9) (ss2 := 55) (pc := 201) d_zs_create_201 rfl cv_zs_138 zs_g1 rfl (c_zs_propose htr hx hfr (e := (0, p, (dd), (nI (j)), false)) ⟨Nat.zero_le _, fun _ => by show p < 259; omega, fun _ => by show 1 ≤ p; omega, fun z => absurd z (by show ¬ 0 = 2; decide)⟩) rfl (by decide) (by decide) (by omega) (by omega) (Nat.le_of_ble_eq_true rfl) (fun _ _ _ hq => q_Z_pr hr0 hq) (fun r h2 N2 hq => ?_)
          obtain ⟨-, ⟨-, -, hr⟩ | ⟨hful, e1, ⟨hqr, hr, e2⟩ | ⟨-, hr⟩⟩⟩ := hq; exact nomatch hr; rotate_left; exact nomatch hr
          cases hr
          rw [e1, e2]
          clear e1 e2
          show q_Ev l G m_zs_create 8 136 9 55 204 [some (.ref (1)), some (.int (nI (j))), some (.int (nI (p))), some (.int (dd)), some (.int (nI (f))), some (.int (bI (false))), some (.int (nI ((p - 1) / 6))), some (.int (nI (p))), some (.int (nI (j)))] [] _ (x_N x + 1) _
          obtain ⟨y, hy⟩ : ∃ y, y = x_pr (0, p, (dd), (nI (j)), false) x := ⟨_, rfl⟩
          unfold z_prop at hr0
          rw [if_neg (by rw [hful]; decide), if_pos hqr, ← hy] at hr0
          rw [← hy]
          have eN : x_N x + 1 = x_N y := by rw [hy]; rfl
          rw [eN]
          refine e_iload (pc := 204) d_zs_create_204 rfl ?_
          exact e_iret (pc := 206) d_zs_create_206 rfl (by rw [hr0]; exact ⟨rfl, rfl, Nat.le_refl _⟩)
      · exact e_throw (pc := 163) rfl xx_zs_130 d_zs_create_163 d_zs_create_166 d_zs_create_167 d_zs_create_170 (by decide) (Nat.le_of_ble_eq_true rfl) (by omega) (by omega) (fun N2 hN => by rw [hr0, if_pos (of_decide_eq_true c3)]; exact ⟨rfl, rfl, hN⟩)
  · have hf2 : 2 ≤ f := by have := mt (and2_0 hf4).mpr c0; omega
    refine e_iconst (pc := 18) d_zs_create_18 (v := (bI (true))) rfl ?_
    refine e_goto (pc := 19) (tgt := 23) d_zs_create_19 (by decide) ?_
    refine e_istore (pc := 23) d_zs_create_23 (by decide) ?_
    refine e_iload_n (pc := 25) d_zs_create_25 rfl ?_
    refine e_iload (pc := 26) d_zs_create_26 rfl ?_
    refine e_ifB_eq (pc := 28) (tgt := 35) d_zs_create_28 (by decide) (fun z => nomatch z) (fun _ => ?_)
    refine e_iconst (pc := 31) d_zs_create_31 (v := (nI (0))) rfl ?_
    refine e_goto (pc := 32) (tgt := 36) d_zs_create_32 (by decide) ?_
    refine e_iload (pc := 36) d_zs_create_36 rfl ?_
    refine e_ifB_eq (pc := 38) (tgt := 46) d_zs_create_38 (by decide) (fun z => nomatch z) (fun _ => ?_)
    refine e_bipush (pc := 41) d_zs_create_41 (v := (nI (43))) rfl ?_
    refine e_goto (pc := 43) (tgt := 49) d_zs_create_43 (by decide) ?_
    refine e_iconst (pc := 49) d_zs_create_49 (v := (nI (1))) rfl ?_
    refine e_isubN (pc := 50) d_zs_create_50 (by omega) ?_
    refine e_callS (As := [.int (q), .int (nI (0)), .int (nI ((43) - (1)))]) (st := []) (cc2 := 13) (ss2 := 78) (pc := 51) d_zs_create_51 rfl cs_zs_47 (c_zs_requireRange htr) rfl (by decide) (by decide) (by omega) (by omega) (Nat.le_of_ble_eq_true rfl) (fun _ _ _ hq => q_Z_bad (fun z => by rw [hr0]; unfold z_create; rw [if_neg (fun u => by have u2 := u.2.2; rw [nT_n (by omega), if_pos hf2] at u2; exact z u2)]) hq (Nat.le_refl _)) (fun r h2 N2 hq => ?_)
    obtain ⟨e1, -, ⟨hok, hr, e2⟩ | ⟨-, hr⟩⟩ := hq; rotate_left; exact nomatch hr
    cases hr
    rw [e1, e2]
    clear e1 e2
    show q_Ev l G m_zs_create 8 136 13 78 54 [some (.ref (1)), some (.int (nI (j))), some (.int (q)), some (.int (dd)), some (.int (nI (f))), some (.int (bI (true))), none, none, none] [] (zs_put (x_h x) (x_R x)) (x_N x) _
    have hok3 := hok
    obtain ⟨p, hp, ep⟩ := q_ofL (n := 43 - 1) (by decide) hok3
    subst ep
    unfold z_create at hr0
    rw [if_pos ⟨hok1, hok2, by rw [nT_n (by omega), if_pos hf2]; exact hok3⟩, nT_n (j := j) (by omega), nT_n (j := f) (by omega), nT_n (j := p) (by omega)] at hr0
    refine e_aload_n (pc := 54) d_zs_create_54 rfl ?_
    refine e_iload_n (pc := 55) d_zs_create_55 rfl ?_
    refine e_callV (As := [.int (nI (j))]) (st := []) (cc2 := 12) (ss2 := 72) (pc := 56) d_zs_create_56 rfl cv_zs_72 zs_g1 rfl (c_zs_requireReach htr hx.1.1 hj hs) rfl (by decide) (by decide) (by omega) (by omega) (Nat.le_of_ble_eq_true rfl) (fun _ _ _ hq => q_Z_bad (fun z => by rw [hr0, if_neg z]) hq (Nat.le_refl _)) (fun r h2 N2 hq => ?_)
    obtain ⟨e1, -, ⟨hok, hr, e2⟩ | ⟨-, hr⟩⟩ := hq; rotate_left; exact nomatch hr
    cases hr
    rw [e1, e2]
    clear e1 e2
    show q_Ev l G m_zs_create 8 136 12 72 59 [some (.ref (1)), some (.int (nI (j))), some (.int (nI (p))), some (.int (dd)), some (.int (nI (f))), some (.int (bI (true))), none, none, none] [] (zs_put (x_h x) (x_R x)) (x_N x) _
    rw [if_pos hok, if_pos hf2] at hr0
    refine e_iload (pc := 59) d_zs_create_59 rfl ?_
    refine e_ifB_eq (pc := 61) (tgt := 68) d_zs_create_61 (by decide) (fun z => nomatch z) (fun _ => ?_)
    refine e_iload_n (pc := 64) d_zs_create_64 rfl ?_
    refine e_goto (pc := 65) (tgt := 72) d_zs_create_65 (by decide) ?_
    refine e_istore (pc := 72) d_zs_create_72 (by decide) ?_
    refine e_aload_n (pc := 74) d_zs_create_74 rfl ?_
    refine e_get (pc := 75) d_zs_create_75 fl_zs_24 zs_g1 rfl ?_
    refine e_iload (pc := 78) d_zs_create_78 rfl ?_
    have hpar : p < 43 := by omega
    refine e_callS (As := [.ref (4), .int (nI (p))]) (st := []) (cc2 := 11) (ss2 := 66) (pc := 80) d_zs_create_80 rfl cs_zs_109 (c_zs_requireNode htr (zs_tP (R := x_R x)) (p := p) (by omega)) rfl (by decide) (by decide) (by omega) (by omega) (Nat.le_of_ble_eq_true rfl) (fun _ _ _ hq => q_Z_bad (fun z => by rw [hr0]; unfold z_cr1; rw [if_neg z]) hq (Nat.le_refl _)) (fun r h2 N2 hq => ?_)
    obtain ⟨e1, -, ⟨hok, hr, e2⟩ | ⟨-, hr⟩⟩ := hq; rotate_left; exact nomatch hr
    cases hr
    rw [e1, e2]
    clear e1 e2
    show q_Ev l G m_zs_create 8 136 11 66 83 [some (.ref (1)), some (.int (nI (j))), some (.int (nI (p))), some (.int (dd)), some (.int (nI (f))), some (.int (bI (true))), some (.int (nI (p))), none, none] [] (zs_put (x_h x) (x_R x)) (x_N x) _
    unfold z_cr1 at hr0
    rw [if_pos hok] at hr0
    refine e_aload_n (pc := 83) d_zs_create_83 rfl ?_
    refine e_get (pc := 84) d_zs_create_84 fl_zs_24 zs_g1 rfl ?_
    refine e_get (pc := 87) d_zs_create_87 fl_zs_113 (zs_tP (R := x_R x)).1 rfl ?_
    refine e_iload (pc := 90) d_zs_create_90 rfl ?_
    refine e_ialdN (pc := 92) d_zs_create_92 (zs_tP (R := x_R x)).2.2.2.1 (by omega) (by decide) ?_
    refine e_iconst (pc := 93) d_zs_create_93 (v := (-1)) rfl ?_
    refine e_icmp_ne (pc := 94) (tgt := 117) d_zs_create_94 (by decide) (fun c1 => ?_) (fun c1 => ?_)
    · exact e_throw (pc := 117) rfl xx_zs_120 d_zs_create_117 d_zs_create_120 d_zs_create_121 d_zs_create_124 (by decide) (Nat.le_of_ble_eq_true rfl) (by omega) (by omega) (fun N2 hN => by rw [hr0, if_pos (Or.inl c1)]; exact ⟨rfl, rfl, hN⟩)
    · refine e_iload (pc := 97) d_zs_create_97 rfl ?_
      refine e_ifB_eq (pc := 99) (tgt := 125) d_zs_create_99 (by decide) (fun z => nomatch z) (fun _ => ?_)
      obtain ⟨m, hm, em⟩ := hnx p hpar
      refine e_aload_n (pc := 102) d_zs_create_102 rfl ?_
      refine e_get (pc := 103) d_zs_create_103 fl_zs_24 zs_g1 rfl ?_
      refine e_get (pc := 106) d_zs_create_106 fl_zs_117 (zs_tP (R := x_R x)).1 rfl ?_
      refine e_iload (pc := 109) d_zs_create_109 rfl ?_
      refine e_ialdN (pc := 111) d_zs_create_111 (zs_tP (R := x_R x)).2.2.2.2 (by omega) (by decide) ?_
      rw [em]
      refine e_bipush (pc := 112) d_zs_create_112 (v := (nI (6))) rfl ?_
      refine e_icmp_ltN (pc := 114) (tgt := 125) d_zs_create_114 (by decide) (by omega) (by omega) (fun c2 => ?_) (fun c2 => ?_)
      · rw [if_neg (fun w => w.elim (fun u => u c1) (fun u => u.2 (by rw [em]; exact (nI_ltI (by omega) (by decide)).mpr c2))), em, nT_n (j := m) (by omega)] at hr0
        refine e_iload (pc := 125) d_zs_create_125 rfl ?_
        refine e_ifB_eq (pc := 127) (tgt := 148) d_zs_create_127 (by decide) (fun z => nomatch z) (fun _ => ?_)
        refine e_iload (pc := 130) d_zs_create_130 rfl ?_
        refine e_aload_n (pc := 132) d_zs_create_132 rfl ?_
        refine e_get (pc := 133) d_zs_create_133 fl_zs_24 zs_g1 rfl ?_
        refine e_get (pc := 136) d_zs_create_136 fl_zs_117 (zs_tP (R := x_R x)).1 rfl ?_
        refine e_iload (pc := 139) d_zs_create_139 rfl ?_
        refine e_ialdN (pc := 141) d_zs_create_141 (zs_tP (R := x_R x)).2.2.2.2 (by omega) (by decide) ?_
        rw [em]
        refine e_callS (As := [.int (nI (p)), .int (nI (m))]) (st := []) (cc2 := 11) (ss2 := 66) (pc := 142) d_zs_create_142 rfl cs_zs_123 (c_zs_childOf htr (p := p) (k := m)) rfl (by decide) (by decide) (by omega) (by omega) (Nat.le_of_ble_eq_true rfl) (fun _ _ _ hq => nomatch hq.1) (fun r h2 N2 hq => ?_)
        obtain ⟨hr, e1, e2⟩ := hq
        cases hr
        rw [e1, e2]
        clear e1 e2
        show q_Ev l G m_zs_create 8 136 11 66 145 [some (.ref (1)), some (.int (nI (j))), some (.int (nI (p))), some (.int (dd)), some (.int (nI (f))), some (.int (bI (true))), some (.int (nI (p))), none, none] [.int (nI (6 * p + m + 1))] (zs_put (x_h x) (x_R x)) (x_N x) _
        unfold z_cr2 at hr0
        refine e_goto (pc := 145) (tgt := 149) d_zs_create_145 (by decide) ?_
        refine e_istore (pc := 149) d_zs_create_149 (by decide) ?_
        refine e_aload_n (pc := 151) d_zs_create_151 rfl ?_
        refine e_get (pc := 152) d_zs_create_152 fl_zs_24 zs_g1 rfl ?_
        refine e_iload (pc := 155) d_zs_create_155 rfl ?_
        refine e_callV (As := [.int (nI (6 * p + m + 1))]) (st := []) (cc2 := 11) (ss2 := 66) (pc := 157) d_zs_create_157 rfl cv_zs_127 (zs_tP (R := x_R x)).1 rfl (c_tr_has htr (zs_tP (R := x_R x)) (p := 6 * p + m + 1) (by omega)) rfl (by decide) (by decide) (by omega) (by omega) (Nat.le_of_ble_eq_true rfl) (fun _ _ _ hq => nomatch hq.1) (fun r h2 N2 hq => ?_)
        obtain ⟨hr, e1, e2⟩ := hq
        cases hr
        rw [e1, e2]
        clear e1 e2
        show q_Ev l G m_zs_create 8 136 11 66 160 [some (.ref (1)), some (.int (nI (j))), some (.int (nI (p))), some (.int (dd)), some (.int (nI (f))), some (.int (bI (true))), some (.int (nI (p))), some (.int (nI (6 * p + m + 1))), none] [.int (bI (decide ((z_P (x_R x)).2.1 (6 * p + m + 1) ≠ -1)))] (zs_put (x_h x) (x_R x)) (x_N x) _
        refine e_ifB_eq (pc := 160) (tgt := 171) d_zs_create_160 (by decide) (fun c3 => ?_) (fun c3 => ?_)
        · rw [if_neg (of_decide_eq_false c3)] at hr0
          refine e_fresh (fun hfs _ => ?_)
          have hNn : 41 < x_N x + 1 := Nat.lt_succ_of_le hx.2
          have hfr : x_h x (x_N x + 1) = none := (zs_hi hNn).symm.trans (hfs _ (Nat.lt_succ_self _))
          refine e_iload (pc := 171) d_zs_create_171 rfl ?_
          refine e_iconst (pc := 173) d_zs_create_173 (v := (nI (1))) rfl ?_
          refine e_iand (pc := 174) d_zs_create_174  ?_
          refine e_if_eq (pc := 175) (tgt := 182) d_zs_create_175 (by decide) (fun c4 => ?_) (fun c4 => ?_)
          · rw [if_pos ((and1_0 hf4).mp c4)] at hr0
            refine e_iconst (pc := 182) d_zs_create_182 (v := (-1)) rfl ?_
            refine e_istore (pc := 183) d_zs_create_183 (by decide) ?_
            refine e_aload_n (pc := 185) d_zs_create_185 rfl ?_
            refine e_new (pc := 186) (cc' := 10) (ss' := 61) d_zs_create_186 nw_zs_133 (by omega) (by omega) ?_
            rw [zs_uh (by omega)]
            refine e_dup (pc := 189) d_zs_create_189 rfl ?_
            refine e_iconst (pc := 190) d_zs_create_190 (v := (nI (0))) rfl ?_
            refine e_iload (pc := 191) d_zs_create_191 rfl ?_
            refine e_iload_n (pc := 193) d_zs_create_193 rfl ?_
            refine e_iload (pc := 194) d_zs_create_194 rfl ?_
            refine e_iload (pc := 196) d_zs_create_196 rfl ?_
            refine e_callI (b := x_N x + 1) (As := [.int (nI (0)), .int (nI (6 * p + m + 1)), .int (dd), .int (-1), .int (bI (true))]) (st := [.ref (x_N x + 1), .ref (1)]) (cc2 := 10) (ss2 := 61) (pc := 198) d_zs_create_198 ci_zs_135 (c_en_init htr ((zs_hi (by omega)).trans (q_up_s _ _ _))) rfl (by decide) (by decide) (by omega) (by omega) (Nat.le_of_ble_eq_true rfl) (fun _ _ _ hq => nomatch hq.1) (fun r h2 N2 hq => ?_)
            obtain ⟨hr, e1, e2⟩ := hq
            cases hr
            rw [e1, e2]
            clear e1 e2
            show q_Ev l G m_zs_create 8 136 10 61 201 [some (.ref (1)), some (.int (nI (j))), some (.int (nI (p))), some (.int (dd)), some (.int (nI (f))), some (.int (bI (true))), some (.int (nI (p))), some (.int (nI (6 * p + m + 1))), some (.int (-1))] [.ref (x_N x + 1), .ref (1)] _ (x_N x + 1) _
            rw [zs_uh (by omega), q_up_up]
            show q_Ev l G m_zs_create 8 136 10 61 201 [some (.ref (1)), some (.int (nI (j))), some (.int (nI (p))), some (.int (dd)), some (.int (nI (f))), some (.int (bI (true))), some (.int (nI (p))), some (.int (nI (6 * p + m + 1))), some (.int (-1))] [.ref (x_N x + 1), .ref (1)] (zs_put (q_up (x_h x) (x_N x + 1) (en_ob (0, 6 * p + m + 1, (dd), (-1), true))) (x_R x)) (x_N x + 1) _
            refine e_callV (As := [.ref (x_N x + 1)]) (st := []) (cc2 := 9) (ss2 := 55) (pc := 201) d_zs_create_201 rfl cv_zs_138 zs_g1 rfl (c_zs_propose htr hx hfr (e := (0, 6 * p + m + 1, (dd), (-1), true)) ⟨Nat.zero_le _, fun _ => by show 6 * p + m + 1 < 259; omega, fun _ => by show 1 ≤ 6 * p + m + 1; omega, fun z => absurd z (by show ¬ 0 = 2; decide)⟩) rfl (by decide) (by decide) (by omega) (by omega) (Nat.le_of_ble_eq_true rfl) (fun _ _ _ hq => q_Z_pr hr0 hq) (fun r h2 N2 hq => ?_)
            obtain ⟨-, ⟨-, -, hr⟩ | ⟨hful, e1, ⟨hqr, hr, e2⟩ | ⟨-, hr⟩⟩⟩ := hq; exact nomatch hr; rotate_left; exact nomatch hr
            cases hr
            rw [e1, e2]
            clear e1 e2
            show q_Ev l G m_zs_create 8 136 9 55 204 [some (.ref (1)), some (.int (nI (j))), some (.int (nI (p))), some (.int (dd)), some (.int (nI (f))), some (.int (bI (true))), some (.int (nI (p))), some (.int (nI (6 * p + m + 1))), some (.int (-1))] [] _ (x_N x + 1) _
            obtain ⟨y, hy⟩ : ∃ y, y = x_pr (0, 6 * p + m + 1, (dd), (-1), true) x := ⟨_, rfl⟩
            unfold z_prop at hr0
            rw [if_neg (by rw [hful]; decide), if_pos hqr, ← hy] at hr0
            rw [← hy]
            have eN : x_N x + 1 = x_N y := by rw [hy]; rfl
            rw [eN]
            refine e_iload (pc := 204) d_zs_create_204 rfl ?_
            exact e_iret (pc := 206) d_zs_create_206 rfl (by rw [hr0]; exact ⟨rfl, rfl, Nat.le_refl _⟩)
          · rw [if_neg (mt (and1_0 hf4).mpr c4)] at hr0
            refine e_iload_n (pc := 178) d_zs_create_178 rfl ?_
            refine e_goto (pc := 179) (tgt := 183) d_zs_create_179 (by decide) ?_
            refine e_istore (pc := 183) d_zs_create_183 (by decide) ?_
            refine e_aload_n (pc := 185) d_zs_create_185 rfl ?_
            refine e_new (pc := 186) (cc' := 10) (ss' := 61) d_zs_create_186 nw_zs_133 (by omega) (by omega) ?_
            rw [zs_uh (by omega)]
            refine e_dup (pc := 189) d_zs_create_189 rfl ?_
            refine e_iconst (pc := 190) d_zs_create_190 (v := (nI (0))) rfl ?_
            refine e_iload (pc := 191) d_zs_create_191 rfl ?_
            refine e_iload_n (pc := 193) d_zs_create_193 rfl ?_
            refine e_iload (pc := 194) d_zs_create_194 rfl ?_
            refine e_iload (pc := 196) d_zs_create_196 rfl ?_
            refine e_callI (b := x_N x + 1) (As := [.int (nI (0)), .int (nI (6 * p + m + 1)), .int (dd), .int (nI (j)), .int (bI (true))]) (st := [.ref (x_N x + 1), .ref (1)]) (cc2 := 10) (ss2 := 61) (pc := 198) d_zs_create_198 ci_zs_135 (c_en_init htr ((zs_hi (by omega)).trans (q_up_s _ _ _))) rfl (by decide) (by decide) (by omega) (by omega) (Nat.le_of_ble_eq_true rfl) (fun _ _ _ hq => nomatch hq.1) (fun r h2 N2 hq => ?_)
            obtain ⟨hr, e1, e2⟩ := hq
            cases hr
            rw [e1, e2]
            clear e1 e2
            show q_Ev l G m_zs_create 8 136 10 61 201 [some (.ref (1)), some (.int (nI (j))), some (.int (nI (p))), some (.int (dd)), some (.int (nI (f))), some (.int (bI (true))), some (.int (nI (p))), some (.int (nI (6 * p + m + 1))), some (.int (nI (j)))] [.ref (x_N x + 1), .ref (1)] _ (x_N x + 1) _
            rw [zs_uh (by omega), q_up_up]
            show q_Ev l G m_zs_create 8 136 10 61 201 [some (.ref (1)), some (.int (nI (j))), some (.int (nI (p))), some (.int (dd)), some (.int (nI (f))), some (.int (bI (true))), some (.int (nI (p))), some (.int (nI (6 * p + m + 1))), some (.int (nI (j)))] [.ref (x_N x + 1), .ref (1)] (zs_put (q_up (x_h x) (x_N x + 1) (en_ob (0, 6 * p + m + 1, (dd), (nI (j)), true))) (x_R x)) (x_N x + 1) _
            refine e_callV (As := [.ref (x_N x + 1)]) (st := []) (cc2 := 9) (ss2 := 55) (pc := 201) d_zs_create_201 rfl cv_zs_138 zs_g1 rfl (c_zs_propose htr hx hfr (e := (0, 6 * p + m + 1, (dd), (nI (j)), true)) ⟨Nat.zero_le _, fun _ => by show 6 * p + m + 1 < 259; omega, fun _ => by show 1 ≤ 6 * p + m + 1; omega, fun z => absurd z (by show ¬ 0 = 2; decide)⟩) rfl (by decide) (by decide) (by omega) (by omega) (Nat.le_of_ble_eq_true rfl) (fun _ _ _ hq => q_Z_pr hr0 hq) (fun r h2 N2 hq => ?_)
            obtain ⟨-, ⟨-, -, hr⟩ | ⟨hful, e1, ⟨hqr, hr, e2⟩ | ⟨-, hr⟩⟩⟩ := hq; exact nomatch hr; rotate_left; exact nomatch hr
            cases hr
            rw [e1, e2]
            clear e1 e2
            show q_Ev l G m_zs_create 8 136 9 55 204 [some (.ref (1)), some (.int (nI (j))), some (.int (nI (p))), some (.int (dd)), some (.int (nI (f))), some (.int (bI (true))), some (.int (nI (p))), some (.int (nI (6 * p + m + 1))), some (.int (nI (j)))] [] _ (x_N x + 1) _
            obtain ⟨y, hy⟩ : ∃ y, y = x_pr (0, 6 * p + m + 1, (dd), (nI (j)), true) x := ⟨_, rfl⟩
            unfold z_prop at hr0
            rw [if_neg (by rw [hful]; decide), if_pos hqr, ← hy] at hr0
            rw [← hy]
            have eN : x_N x + 1 = x_N y := by rw [hy]; rfl
            rw [eN]
            refine e_iload (pc := 204) d_zs_create_204 rfl ?_
            exact e_iret (pc := 206) d_zs_create_206 rfl (by rw [hr0]; exact ⟨rfl, rfl, Nat.le_refl _⟩)
        · exact e_throw (pc := 163) rfl xx_zs_130 d_zs_create_163 d_zs_create_166 d_zs_create_167 d_zs_create_170 (by decide) (Nat.le_of_ble_eq_true rfl) (by omega) (by omega) (fun N2 hN => by rw [hr0, if_pos (of_decide_eq_true c3)]; exact ⟨rfl, rfl, hN⟩)
      · exact e_throw (pc := 117) rfl xx_zs_120 d_zs_create_117 d_zs_create_120 d_zs_create_121 d_zs_create_124 (by decide) (Nat.le_of_ble_eq_true rfl) (by omega) (by omega) (fun N2 hN => by rw [hr0, if_pos (Or.inr ⟨rfl, by rw [em]; exact (nI_ltz (by omega) (by decide)).mpr c2⟩)]; exact ⟨rfl, rfl, hN⟩)
