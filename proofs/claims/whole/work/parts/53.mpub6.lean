/-! THE MODEL'S PUBLIC METHODS (6) -/
def m_fg (s : Nat) (M : mR) : mR := (M.1, M.2.1, M.2.2.1, M.2.2.2.1, (fgK M.2.2.2.2.1.1 s 259, fgK M.2.2.2.2.1.2.1 s 259, M.2.2.2.2.1.2.2), M.2.2.2.2.2)
def mcF (k : Nat) : Nat → Nat → mR → mR
  | 0, _, M => M
  | g + 1, s, M => mcF k g (s + 1) (if M.2.2.2.1.2.2.1 s = k then m_fg s M else M)
theorem mcF_ok {n k : Nat} : ∀ {g s : Nat} {M : mR}, mOK n M → mOK n (mcF k g s M) := by
  intro g
  induction g with
  | zero => intro s M h; exact h
  | succ g ih =>
    intro s M h
    refine ih ?_
    split
    · exact h
    · exact h
def m_cr0 (k : Nat) (M : mR) : mR := ((M.1.1, if M.1.2.1 = some k then none else M.1.2.1, M.1.2.2), (m_dn k true M).2)
def m_crash (i : Int32) (M : mR) : Int32 × mR := if (nI 0 ≤ i ∧ i ≤ nI 2) then if M.2.2.1.2.2.2.1 (nT i) = false then m_E (nI (M.2.2.1.1 (nT i))) (mcF (nT i) 4 0 (m_cr0 (nT i) M)) else m_F 2 M else m_F 1 M
theorem mcF_fa {k : Nat} {c : Int32} : ∀ {g s : Nat} {M : mR}, m_fa c (mcF k g s M) = mcF k g s (m_fa c M) := by
  intro g
  induction g with
  | zero => intro s M; rfl
  | succ g ih =>
    intro s M
    show m_fa c (mcF k g (s + 1) _) = mcF k g (s + 1) _
    rw [ih]
    congr 1
    show m_fa c (if M.2.2.2.1.2.2.1 s = k then m_fg s M else M) = (if M.2.2.2.1.2.2.1 s = k then m_fg s (m_fa c M) else m_fa c M)
    split <;> rfl
def mxp (s : Nat) (M : mR) : Bool := M.2.2.2.1.1 s && !decide (M.1.2.2.2 < M.2.2.2.1.2.2.2.2 s + M.2.2.2.1.2.2.2.1 s)
def mtF : Nat → Nat → mR × Nat → mR × Nat
  | 0, _, X => X
  | g + 1, s, X => mtF g (s + 1) (if mxp s X.1 = true then (m_fin s X.1, X.2 + 1) else X)
theorem m_fin_ok {n s : Nat} {M : mR} (h : mOK n M) : mOK n (m_fin s M) := ⟨h.1, h.2.1, mWo_z h.2.2.1, h.2.2.2⟩
theorem mtF_ok {n : Nat} : ∀ {g s : Nat} {X : mR × Nat}, mOK n X.1 → mOK n (mtF g s X).1 := by
  intro g
  induction g with
  | zero => intro s X h; exact h
  | succ g ih =>
    intro s X h
    refine ih ?_
    split
    · exact m_fin_ok h
    · exact h
theorem mtF_fa {c : Int32} : ∀ {g s : Nat} {X : mR × Nat}, (m_fa c (mtF g s X).1, (mtF g s X).2) = mtF g s (m_fa c X.1, X.2) := by
  intro g
  induction g with
  | zero => intro s X; rfl
  | succ g ih =>
    intro s X
    show (m_fa c (mtF g (s + 1) _).1, (mtF g (s + 1) _).2) = mtF g (s + 1) _
    rw [ih]
    congr 1
    show _ = (if mxp s X.1 = true then (m_fin s (m_fa c X.1), X.2 + 1) else (m_fa c X.1, X.2))
    split <;> rfl
def m_tm (b : Int32) (M : mR) : mR := ((M.1.1, M.1.2.1, M.1.2.2.1, M.1.2.2.2 + b), M.2)
def m_tick (b : Int32) (M : mR) : Int32 × mR := if (nI 0 ≤ b ∧ b ≤ nI 20) then m_E (nI (mtF 4 0 (m_tm b M, 0)).2) (mtF 4 0 (m_tm b M, 0)).1 else m_F 1 M
def meB (S : mS) (s : Nat) : Option Nat → Option Nat
  | none => some s
  | some b => if S.2.2.1 b < S.2.2.1 s ∨ (S.2.2.1 s = S.2.2.1 b ∧ S.1 b < S.1 s) then some s else some b
def meK (S : mS) : Nat → Nat × Option Nat
  | 0 => (0, none)
  | s + 1 => if k_ft S.2.2.2 s = true then ((meK S s).1 + 1, meB S s (meK S s).2) else meK S s
theorem meK_b {S : mS} : ∀ s, (∀ b, (meK S s).2 = some b → b < s) ∧ ((meK S s).1 = 0 ∨ ∃ b, (meK S s).2 = some b) ∧ (meK S s).1 ≤ s := by
  intro s
  induction s with
  | zero => exact ⟨(fun b h => nomatch h), Or.inl rfl, Nat.le_refl _⟩
  | succ s ih =>
    unfold meK
    split
    · cases e : (meK S s).2 with
      | none => exact ⟨fun b h => by cases h; omega, Or.inr ⟨s, rfl⟩, by have := ih.2.2; show (meK S s).1 + 1 ≤ s + 1; omega⟩
      | some b0 =>
        have h0 := ih.1 b0 e
        refine ⟨fun b h => ?_, ?_, by have := ih.2.2; show (meK S s).1 + 1 ≤ s + 1; omega⟩
        · simp only [meB] at h
          split at h
          · cases h; omega
          · cases h; omega
        · right
          simp only [meB]
          split
          · exact ⟨s, rfl⟩
          · exact ⟨b0, rfl⟩
    · exact ⟨fun b h => by have := ih.1 b h; omega, ih.2.1, by have := ih.2.2; omega⟩
def m_el (b : Nat) (M : mR) : mR := ((M.1.1, some b, M.1.2.2.1 + 1, M.1.2.2.2), M.2)
def m_elect (M : mR) : Int32 × mR := if 2 ≤ (meK M.2.2.1 3).1 then match (meK M.2.2.1 3).2 with
    | none => m_F 1 M
    | some b => m_E (nI b) (spM (m_el b M))
  else m_F 1 M
set_option maxHeartbeats 400000 in
set_option maxRecDepth 100000 in
theorem lp_md_crash {l : Launch} {G : q_G} (htr : l.stackTraces = false) {h : q_H} {N k n : Nat} {Q : q_Q} (hk : k < 3) : ∀ (g s : Nat) (M : mR), s + g = 4 ∧ mOK n M → (q_Ev l G m_md_crash 7 165 0 0 83 [some (.ref 42), some (.int (nI k)), some (.int (nI 4))] [] (md_put h (mcF k g s M)) N Q) → q_Ev l G m_md_crash 7 165 0 0 57 [some (.ref (42)), some (.int (nI (k))), some (.int (nI (s)))] [] (md_put h M) N Q := by
  intro g
  induction g with
  | zero =>
    intro s M he
    intro kk
    have hkn : s = 4 := by omega
    subst hkn
    refine e_iload_n (pc := 57) d_md_crash_57 rfl ?_
    refine e_iconst (pc := 58) d_md_crash_58 (v := (nI (4))) rfl ?_
    refine e_icmp_geN (pc := 59) (tgt := 83) d_md_crash_59 (by decide) (by omega) (by omega) (fun c => ?_) (fun c => ?_)
    · exact kk
    · omega
  | succ g ih =>
    intro s M he
    intro kk
    obtain ⟨he, hO⟩ := he
    refine e_iload_n (pc := 57) d_md_crash_57 rfl ?_
    refine e_iconst (pc := 58) d_md_crash_58 (v := (nI (4))) rfl ?_
    refine e_icmp_geN (pc := 59) (tgt := 83) d_md_crash_59 (by decide) (by omega) (by omega) (fun c => ?_) (fun c => ?_)
    · omega
    · have ha3 := hO.2.1 s c
      refine e_aload_n (pc := 62) d_md_crash_62 rfl ?_
      refine e_get (pc := 63) d_md_crash_63 fl_md_48 md_g42 rfl ?_
      refine e_iload_n (pc := 66) d_md_crash_66 rfl ?_
      refine e_naldN (pc := 67) d_md_crash_67 (f := (M.2.2.2.1.2.2.1)) md_g54 (by omega) (by decide) ?_
      refine e_iload_n (pc := 68) d_md_crash_68 rfl ?_
      refine e_icmp_neN (pc := 69) (tgt := 77) d_md_crash_69 (by decide) (by omega) (by omega) (fun c1 => ?_) (fun c1 => ?_)
      · refine e_iincN (pc := 77) d_md_crash_77 (a := s) (b := 1) rfl rfl (by decide) ?_
        refine e_goto (pc := 80) (tgt := 57) d_md_crash_80 (by decide) ?_
        simp only [mcF] at kk
        rw [if_neg c1] at kk
        exact ih (s + 1) M ⟨by omega, hO⟩ kk
      · refine e_aload_n (pc := 72) d_md_crash_72 rfl ?_
        refine e_iload_n (pc := 73) d_md_crash_73 rfl ?_
        refine e_callV (As := [.int (nI (s))]) (st := []) (cc2 := 0) (ss2 := 0) (pc := 74) d_md_crash_74 rfl cv_md_141 md_g42 rfl (c_md_forget htr c) rfl (by decide) (by decide) (by omega) (by omega) (Nat.le_of_ble_eq_true rfl) (fun _ _ _ hq => nomatch hq.1) (fun r h2 N2 hq => ?_)
        obtain ⟨hr, e1, e2⟩ := hq
        cases hr
        rw [e1, e2]
        clear e1 e2
        show q_Ev l G m_md_crash 7 165 0 0 77 [some (.ref (42)), some (.int (nI (k))), some (.int (nI (s)))] [] _ N _
        refine e_iincN (pc := 77) d_md_crash_77 (a := s) (b := 1) rfl rfl (by decide) ?_
        refine e_goto (pc := 80) (tgt := 57) d_md_crash_80 (by decide) ?_
        simp only [mcF] at kk
        rw [if_pos c1] at kk
        exact ih (s + 1) (m_fg s M) ⟨by omega, hO⟩ kk
theorem mcF_S {k : Nat} : ∀ {g s : Nat} {M : mR} {j : Nat}, (mcF k g s M).2.2.1.1 j = M.2.2.1.1 j := by
  intro g
  induction g with
  | zero => intro s M j; rfl
  | succ g ih =>
    intro s M j
    show (mcF k g (s + 1) _).2.2.1.1 j = _
    rw [ih]
    split <;> rfl
set_option maxHeartbeats 400000 in
set_option maxRecDepth 100000 in
theorem c_md_crash {l : Launch} {G : q_G} (htr : l.stackTraces = false) {h : q_H} {N : Nat} {fa : Int32} {ld : Option Nat} {ep : Nat} {tm : Int32} {L : mL} {S : mS} {C : mC} {W : mW} {T : mT} {i : Int32} {n : Nat} (hn : n ≤ 72) (hO : mOK n ((fa, ld, ep, tm), L, S, C, W, T)) : q_Met l G m_md_crash 7 165 0 0 [.ref (42), .int (i)] (md_put h ((fa, ld, ep, tm), L, S, C, W, T)) N (q_To (some (.int (m_crash i ((fa, ld, ep, tm), L, S, C, W, T)).1)) (md_put h (m_crash i ((fa, ld, ep, tm), L, S, C, W, T)).2) N) := by
  obtain ⟨r0, hr0⟩ : ∃ r, r = m_crash i ((fa, ld, ep, tm), L, S, C, W, T) := ⟨_, rfl⟩
  rw [← hr0]
  refine q_Met.mk htr (by decide +kernel) rfl (List.forall_mem_cons.mpr ⟨rfl, List.forall_mem_cons.mpr ⟨rfl, fun _ h => nomatch h⟩⟩) (Nat.le_of_ble_eq_true rfl) ?_
  refine e_aload_n (pc := 0) d_md_crash_0 rfl ?_
  refine e_iconst (pc := 1) d_md_crash_1 (v := (nI (0))) rfl ?_
  refine e_putE (pc := 2) d_md_crash_2 (fs2 := [.int (nI (0)), .ref (43), .ref (44), .ref (45), .ref (46), .ref (47), .ref (48), .ref (49), .ref (50), .ref (51), .int (ldI ld), .int (nI (ep)), .int (tm), .ref (52), .ref (53), .ref (54), .ref (55), .ref (56), .ref (57), .ref (58), .ref (59), .ref (60), .ref (61), .ref (62), .ref (63), .ref (64), .ref (65)]) fl_md_84 md_g42 (Nat.le_of_ble_eq_true rfl) (fun _ => rfl) (fun _ => rfl) rfl ?_
  rw [md_u42 (ld := ld)]
  show q_Ev l G m_md_crash 7 165 0 0 5 [some (.ref (42)), some (.int (i)), none] [] (md_put h (((nI (0)), ld, (ep), (tm)), ((L.1), (L.2.1), (L.2.2.1), (L.2.2.2)), ((S.1), (S.2.1), (S.2.2.1), (S.2.2.2.1), (S.2.2.2.2)), ((C.1), (C.2.1), (C.2.2.1), (C.2.2.2.1), (C.2.2.2.2)), ((W.1), (W.2.1), (W.2.2.1), (W.2.2.2)), ((T.1), (T.2.1), (T.2.2.1), (T.2.2.2.1), (T.2.2.2.2)))) N _
  refine e_aload_n (pc := 5) d_md_crash_5 rfl ?_
  refine e_iload_n (pc := 6) d_md_crash_6 rfl ?_
  refine e_iconst (pc := 7) d_md_crash_7 (v := (nI (3))) rfl ?_
  refine e_callV (As := [.int (i), .int (nI (3))]) (st := []) (cc2 := 0) (ss2 := 0) (pc := 8) d_md_crash_8 rfl cv_md_145 md_g42 rfl (c_md_out htr) rfl (by decide) (by decide) (by omega) (by omega) (Nat.le_of_ble_eq_true rfl) (fun _ _ _ hq => nomatch hq.1) (fun r h2 N2 hq => ?_)
  obtain ⟨hr, e1, e2⟩ := hq
  cases hr
  rw [e1, e2]
  clear e1 e2
  show q_Ev l G m_md_crash 7 165 0 0 11 [some (.ref (42)), some (.int (i)), none] [.int (bI (decide (i < 0 ∨ ¬ i < nI 3)))] (md_put h (((nI (0)), ld, (ep), (tm)), ((L.1), (L.2.1), (L.2.2.1), (L.2.2.2)), ((S.1), (S.2.1), (S.2.2.1), (S.2.2.2.1), (S.2.2.2.2)), ((C.1), (C.2.1), (C.2.2.1), (C.2.2.2.1), (C.2.2.2.2)), ((W.1), (W.2.1), (W.2.2.1), (W.2.2.2)), ((T.1), (T.2.1), (T.2.2.1), (T.2.2.2.1), (T.2.2.2.2)))) N _
  refine e_ifB_eq (pc := 11) (tgt := 20) d_md_crash_11 (by decide) (fun co => ?_) (fun co => ?_)
  · have hi := out_f (n := 2) (by decide) co
    have hi1 := hi
    obtain ⟨k, hk, ek⟩ := q_ofL (n := 2) (by decide) hi
    subst ek
    refine e_aload_n (pc := 20) d_md_crash_20 rfl ?_
    refine e_get (pc := 21) d_md_crash_21 fl_md_31 md_g42 rfl ?_
    refine e_iload_n (pc := 24) d_md_crash_24 rfl ?_
    refine e_zaldN (pc := 25) d_md_crash_25 (f := (S.2.2.2.1)) md_g50 (by omega) (by decide) ?_
    refine e_ifB_eq (pc := 26) (tgt := 35) d_md_crash_26 (by decide) (fun c1 => ?_) (fun c1 => ?_)
    · refine e_aload_n (pc := 35) d_md_crash_35 rfl ?_
      refine e_get (pc := 36) d_md_crash_36 fl_md_31 md_g42 rfl ?_
      refine e_iload_n (pc := 39) d_md_crash_39 rfl ?_
      refine e_iconst (pc := 40) d_md_crash_40 (v := (bI (true))) rfl ?_
      refine e_zastN (pc := 41) d_md_crash_41 (f := (S.2.2.2.1)) md_g50 (by omega) (by decide) ?_
      rw [md_u50]
      show q_Ev l G m_md_crash 7 165 0 0 42 [some (.ref (42)), some (.int (nI (k))), none] [] (md_put h (((nI (0)), ld, (ep), (tm)), ((L.1), (L.2.1), (L.2.2.1), (L.2.2.2)), ((S.1), (S.2.1), (S.2.2.1), (va_up ((S.2.2.2.1)) (k) (true)), (S.2.2.2.2)), ((C.1), (C.2.1), (C.2.2.1), (C.2.2.2.1), (C.2.2.2.2)), ((W.1), (W.2.1), (W.2.2.1), (W.2.2.2)), ((T.1), (T.2.1), (T.2.2.1), (T.2.2.2.1), (T.2.2.2.2)))) N _
      refine e_aload_n (pc := 42) d_md_crash_42 rfl ?_
      refine e_get (pc := 43) d_md_crash_43 fl_md_105 md_g42 rfl ?_
      refine e_iload_n (pc := 46) d_md_crash_46 rfl ?_
      refine e_icmp_ne (pc := 47) (tgt := 55) d_md_crash_47 (by decide) (fun cl => ?_) (fun cl => ?_)
      · refine e_iconst (pc := 55) d_md_crash_55 (v := (nI (0))) rfl ?_
        refine e_istore_n (pc := 56) d_md_crash_56 (by decide) ?_
        have eM : m_fa (nI 0) (m_cr0 k ((fa, ld, ep, tm), L, S, C, W, T)) = ((nI 0, ld, ep, tm), L, (S.1, S.2.1, S.2.2.1, va_up S.2.2.2.1 k true, S.2.2.2.2), C, W, T) := by unfold m_cr0; rw [if_neg (fun z => cl ((ldI_eq hO.1 hk).mpr z).symm)]; rfl
        have hOM : mOK n ((nI 0, ld, ep, tm), L, (S.1, S.2.1, S.2.2.1, va_up S.2.2.2.1 k true, S.2.2.2.2), C, W, T) := ⟨hO.1, hO.2.1, hO.2.2.1, hO.2.2.2⟩
        refine lp_md_crash (n := n) htr hk 4 0 ((nI 0, ld, ep, tm), L, (S.1, S.2.1, S.2.2.1, va_up S.2.2.2.1 k true, S.2.2.2.2), C, W, T) ⟨by omega, hOM⟩ ?_
        obtain ⟨MX, hMX⟩ : ∃ M, M = mcF k 4 0 ((nI 0, ld, ep, tm), L, (S.1, S.2.1, S.2.2.1, va_up S.2.2.2.1 k true, S.2.2.2.2), C, W, T) := ⟨_, rfl⟩
        refine q_Ev.hp (h1 := md_put h MX) (show md_put h MX = md_put h (mcF k 4 0 ((nI 0, ld, ep, tm), L, (S.1, S.2.1, S.2.2.1, va_up S.2.2.2.1 k true, S.2.2.2.2), C, W, T)) from congrArg _ hMX) ?_
        have hOX : mOK n MX := by rw [hMX]; exact mcF_ok hOM
        show q_Ev l G m_md_crash 7 165 0 0 83 [some (.ref (42)), some (.int (nI (k))), some (.int (nI (4)))] [] (md_put h MX) N _
        have eX : m_fa (nI 0) (mcF k 4 0 (m_cr0 k ((fa, ld, ep, tm), L, S, C, W, T))) = MX := by rw [hMX, mcF_fa, eM]
        have eln : MX.2.2.1.1 k = S.1 k := by rw [hMX]; exact mcF_S
        refine e_aload_n (pc := 83) d_md_crash_83 rfl ?_
        refine e_aload_n (pc := 84) d_md_crash_84 rfl ?_
        refine e_get (pc := 85) d_md_crash_85 fl_md_22 md_g42 rfl ?_
        refine e_iload_n (pc := 88) d_md_crash_88 rfl ?_
        refine e_naldN (pc := 89) d_md_crash_89 (f := (MX.2.2.1.1)) md_g47 (by omega) (by decide) ?_
        refine e_callV (As := [.int (nI (((MX.2.2.1.1)) (k)))]) (st := []) (cc2 := 0) (ss2 := 0) (pc := 90) d_md_crash_90 rfl cv_md_155 md_g42 rfl (c_md_end (A := MX.1) (L := MX.2.1) (S := MX.2.2.1) (C := MX.2.2.2.1) (W := MX.2.2.2.2.1) (T := MX.2.2.2.2.2) htr (show n ≤ 76 by omega) hOX) rfl (by decide) (by decide) (by omega) (by omega) (Nat.le_of_ble_eq_true rfl) (fun _ _ _ hq => nomatch hq.1) (fun r h2 N2 hq => ?_)
        obtain ⟨hr, e1, e2⟩ := hq
        cases hr
        rw [e1, e2]
        clear e1 e2
        show q_Ev l G m_md_crash 7 165 0 0 93 [some (.ref (42)), some (.int (nI (k))), some (.int (nI (4)))] [.int (nI (MX.2.2.1.1 k))] _ N _
        exact e_iret (pc := 93) d_md_crash_93 rfl (by rw [hr0]; unfold m_crash; rw [if_pos hi1, nT_n (by omega), if_pos c1]; unfold m_E; rw [eX]; exact ⟨by rw [eln], rfl, rfl⟩)
      · refine e_aload_n (pc := 50) d_md_crash_50 rfl ?_
        refine e_iconst (pc := 51) d_md_crash_51 (v := (-1)) rfl ?_
        refine e_putE (pc := 52) d_md_crash_52 (fs2 := [.int ((nI (0))), .ref (43), .ref (44), .ref (45), .ref (46), .ref (47), .ref (48), .ref (49), .ref (50), .ref (51), .int (-1), .int (nI ((ep))), .int ((tm)), .ref (52), .ref (53), .ref (54), .ref (55), .ref (56), .ref (57), .ref (58), .ref (59), .ref (60), .ref (61), .ref (62), .ref (63), .ref (64), .ref (65)]) fl_md_105 md_g42 (Nat.le_of_ble_eq_true rfl) (fun _ => rfl) (fun _ => rfl) rfl ?_
        refine q_Ev.hp (md_u42 (fa := ((nI (0)))) (ld := none) (ep := ((ep))) (tm := ((tm)))).symm ?_
        show q_Ev l G m_md_crash 7 165 0 0 55 [some (.ref (42)), some (.int (nI (k))), none] [] (md_put h ((((nI (0))), none, ((ep)), ((tm))), ((L.1), (L.2.1), (L.2.2.1), (L.2.2.2)), ((S.1), (S.2.1), (S.2.2.1), (va_up ((S.2.2.2.1)) (k) (true)), (S.2.2.2.2)), ((C.1), (C.2.1), (C.2.2.1), (C.2.2.2.1), (C.2.2.2.2)), ((W.1), (W.2.1), (W.2.2.1), (W.2.2.2)), ((T.1), (T.2.1), (T.2.2.1), (T.2.2.2.1), (T.2.2.2.2)))) N _
        refine e_iconst (pc := 55) d_md_crash_55 (v := (nI (0))) rfl ?_
        refine e_istore_n (pc := 56) d_md_crash_56 (by decide) ?_
        have eM : m_fa (nI 0) (m_cr0 k ((fa, ld, ep, tm), L, S, C, W, T)) = ((nI 0, none, ep, tm), L, (S.1, S.2.1, S.2.2.1, va_up S.2.2.2.1 k true, S.2.2.2.2), C, W, T) := by unfold m_cr0; rw [if_pos ((ldI_eq hO.1 hk).mp cl.symm)]; rfl
        have hOM : mOK n ((nI 0, none, ep, tm), L, (S.1, S.2.1, S.2.2.1, va_up S.2.2.2.1 k true, S.2.2.2.2), C, W, T) := ⟨(fun _ z => nomatch z), hO.2.1, hO.2.2.1, hO.2.2.2⟩
        refine lp_md_crash (n := n) htr hk 4 0 ((nI 0, none, ep, tm), L, (S.1, S.2.1, S.2.2.1, va_up S.2.2.2.1 k true, S.2.2.2.2), C, W, T) ⟨by omega, hOM⟩ ?_
        obtain ⟨MX, hMX⟩ : ∃ M, M = mcF k 4 0 ((nI 0, none, ep, tm), L, (S.1, S.2.1, S.2.2.1, va_up S.2.2.2.1 k true, S.2.2.2.2), C, W, T) := ⟨_, rfl⟩
        refine q_Ev.hp (h1 := md_put h MX) (show md_put h MX = md_put h (mcF k 4 0 ((nI 0, none, ep, tm), L, (S.1, S.2.1, S.2.2.1, va_up S.2.2.2.1 k true, S.2.2.2.2), C, W, T)) from congrArg _ hMX) ?_
        have hOX : mOK n MX := by rw [hMX]; exact mcF_ok hOM
        show q_Ev l G m_md_crash 7 165 0 0 83 [some (.ref (42)), some (.int (nI (k))), some (.int (nI (4)))] [] (md_put h MX) N _
        have eX : m_fa (nI 0) (mcF k 4 0 (m_cr0 k ((fa, ld, ep, tm), L, S, C, W, T))) = MX := by rw [hMX, mcF_fa, eM]
        have eln : MX.2.2.1.1 k = S.1 k := by rw [hMX]; exact mcF_S
        refine e_aload_n (pc := 83) d_md_crash_83 rfl ?_
        refine e_aload_n (pc := 84) d_md_crash_84 rfl ?_
        refine e_get (pc := 85) d_md_crash_85 fl_md_22 md_g42 rfl ?_
        refine e_iload_n (pc := 88) d_md_crash_88 rfl ?_
        refine e_naldN (pc := 89) d_md_crash_89 (f := (MX.2.2.1.1)) md_g47 (by omega) (by decide) ?_
        refine e_callV (As := [.int (nI (((MX.2.2.1.1)) (k)))]) (st := []) (cc2 := 0) (ss2 := 0) (pc := 90) d_md_crash_90 rfl cv_md_155 md_g42 rfl (c_md_end (A := MX.1) (L := MX.2.1) (S := MX.2.2.1) (C := MX.2.2.2.1) (W := MX.2.2.2.2.1) (T := MX.2.2.2.2.2) htr (show n ≤ 76 by omega) hOX) rfl (by decide) (by decide) (by omega) (by omega) (Nat.le_of_ble_eq_true rfl) (fun _ _ _ hq => nomatch hq.1) (fun r h2 N2 hq => ?_)
        obtain ⟨hr, e1, e2⟩ := hq
        cases hr
        rw [e1, e2]
        clear e1 e2
        show q_Ev l G m_md_crash 7 165 0 0 93 [some (.ref (42)), some (.int (nI (k))), some (.int (nI (4)))] [.int (nI (MX.2.2.1.1 k))] _ N _
        exact e_iret (pc := 93) d_md_crash_93 rfl (by rw [hr0]; unfold m_crash; rw [if_pos hi1, nT_n (by omega), if_pos c1]; unfold m_E; rw [eX]; exact ⟨by rw [eln], rfl, rfl⟩)
    · refine e_aload_n (pc := 29) d_md_crash_29 rfl ?_
      refine e_iconst (pc := 30) d_md_crash_30 (v := (nI (2))) rfl ?_
      refine e_callV (As := [.int (nI (2))]) (st := []) (cc2 := 0) (ss2 := 0) (pc := 31) d_md_crash_31 rfl cv_md_149 md_g42 rfl (c_md_fail htr) rfl (by decide) (by decide) (by omega) (by omega) (Nat.le_of_ble_eq_true rfl) (fun _ _ _ hq => nomatch hq.1) (fun r h2 N2 hq => ?_)
      obtain ⟨hr, e1, e2⟩ := hq
      cases hr
      rw [e1, e2]
      clear e1 e2
      show q_Ev l G m_md_crash 7 165 0 0 34 [some (.ref (42)), some (.int (nI (k))), none] [.int (nI (0))] _ N _
      exact e_iret (pc := 34) d_md_crash_34 rfl (by rw [hr0]; unfold m_crash; rw [if_pos hi1, nT_n (by omega), if_neg (fun z => absurd (c1.symm.trans z) (by decide))]; exact ⟨rfl, rfl, rfl⟩)
  · have hi := out_t (n := 2) (by decide) co
    refine e_aload_n (pc := 14) d_md_crash_14 rfl ?_
    refine e_iconst (pc := 15) d_md_crash_15 (v := (nI (1))) rfl ?_
    refine e_callV (As := [.int (nI (1))]) (st := []) (cc2 := 0) (ss2 := 0) (pc := 16) d_md_crash_16 rfl cv_md_149 md_g42 rfl (c_md_fail htr) rfl (by decide) (by decide) (by omega) (by omega) (Nat.le_of_ble_eq_true rfl) (fun _ _ _ hq => nomatch hq.1) (fun r h2 N2 hq => ?_)
    obtain ⟨hr, e1, e2⟩ := hq
    cases hr
    rw [e1, e2]
    clear e1 e2
    show q_Ev l G m_md_crash 7 165 0 0 19 [some (.ref (42)), some (.int (i)), none] [.int (nI (0))] _ N _
    exact e_iret (pc := 19) d_md_crash_19 rfl (by rw [hr0]; unfold m_crash; rw [if_neg hi]; exact ⟨rfl, rfl, rfl⟩)
set_option maxHeartbeats 400000 in
set_option maxRecDepth 100000 in
theorem lp_md_tick {l : Launch} {G : q_G} (htr : l.stackTraces = false) {h : q_H} {N n : Nat} {b : Int32} {Q : q_Q} : ∀ (g s : Nat) (M : mR) (x : Nat), s + g = 4 ∧ mOK n M → (q_Ev l G m_md_tick 7 165 0 0 83 [some (.ref 42), some (.int b), some (.int (nI (mtF g s (M, x)).2)), some (.int (nI 4))] [] (md_put h (mtF g s (M, x)).1) N Q) → q_Ev l G m_md_tick 7 165 0 0 35 [some (.ref (42)), some (.int (b)), some (.int (nI (x))), some (.int (nI (s)))] [] (md_put h M) N Q := by
  intro g
  induction g with
  | zero =>
    intro s M x he
    intro kk
    have hkn : s = 4 := by omega
    subst hkn
    refine e_iload_n (pc := 35) d_md_tick_35 rfl ?_
    refine e_iconst (pc := 36) d_md_tick_36 (v := (nI (4))) rfl ?_
    refine e_icmp_geN (pc := 37) (tgt := 83) d_md_tick_37 (by decide) (by omega) (by omega) (fun c => ?_) (fun c => ?_)
    · exact kk
    · omega
  | succ g ih =>
    intro s M x he
    intro kk
    obtain ⟨he, hO⟩ := he
    refine e_iload_n (pc := 35) d_md_tick_35 rfl ?_
    refine e_iconst (pc := 36) d_md_tick_36 (v := (nI (4))) rfl ?_
    refine e_icmp_geN (pc := 37) (tgt := 83) d_md_tick_37 (by decide) (by omega) (by omega) (fun c => ?_) (fun c => ?_)
    · omega
    · refine e_aload_n (pc := 40) d_md_tick_40 rfl ?_
      refine e_get (pc := 41) d_md_tick_41 fl_md_42 md_g42 rfl ?_
      refine e_iload_n (pc := 44) d_md_tick_44 rfl ?_
      refine e_zaldN (pc := 45) d_md_tick_45 (f := (M.2.2.2.1.1)) md_g52 (by omega) (by decide) ?_
      refine e_ifB_eq (pc := 46) (tgt := 77) d_md_tick_46 (by decide) (fun c1 => ?_) (fun c1 => ?_)
      · refine e_iincN (pc := 77) d_md_tick_77 (a := s) (b := 1) rfl rfl (by decide) ?_
        refine e_goto (pc := 80) (tgt := 35) d_md_tick_80 (by decide) ?_
        simp only [mtF] at kk
        rw [if_neg (show ¬ mxp s M = true by simp [mxp, c1])] at kk
        exact ih (s + 1) M x ⟨by omega, hO⟩ kk
      · refine e_aload_n (pc := 49) d_md_tick_49 rfl ?_
        refine e_get (pc := 50) d_md_tick_50 fl_md_54 md_g42 rfl ?_
        refine e_iload_n (pc := 53) d_md_tick_53 rfl ?_
        refine e_ialdN (pc := 54) d_md_tick_54 (f := (M.2.2.2.1.2.2.2.2)) md_g56 (by omega) (by decide) ?_
        refine e_aload_n (pc := 55) d_md_tick_55 rfl ?_
        refine e_get (pc := 56) d_md_tick_56 fl_md_51 md_g42 rfl ?_
        refine e_iload_n (pc := 59) d_md_tick_59 rfl ?_
        refine e_ialdN (pc := 60) d_md_tick_60 (f := (M.2.2.2.1.2.2.2.1)) md_g55 (by omega) (by decide) ?_
        refine e_iadd (pc := 61) d_md_tick_61  ?_
        refine e_aload_n (pc := 62) d_md_tick_62 rfl ?_
        refine e_get (pc := 63) d_md_tick_63 fl_md_152 md_g42 rfl ?_
        refine e_icmp_gt (pc := 66) (tgt := 77) d_md_tick_66 (by decide) (fun c2 => ?_) (fun c2 => ?_)
        · refine e_iincN (pc := 77) d_md_tick_77 (a := s) (b := 1) rfl rfl (by decide) ?_
          refine e_goto (pc := 80) (tgt := 35) d_md_tick_80 (by decide) ?_
          simp only [mtF] at kk
          rw [if_neg (show ¬ mxp s M = true by simp [mxp, c2])] at kk
          exact ih (s + 1) M x ⟨by omega, hO⟩ kk
        · refine e_aload_n (pc := 69) d_md_tick_69 rfl ?_
          refine e_iload_n (pc := 70) d_md_tick_70 rfl ?_
          refine e_callV (As := [.int (nI (s))]) (st := []) (cc2 := 0) (ss2 := 0) (pc := 71) d_md_tick_71 rfl cv_md_161 md_g42 rfl (c_md_finish htr c) rfl (by decide) (by decide) (by omega) (by omega) (Nat.le_of_ble_eq_true rfl) (fun _ _ _ hq => nomatch hq.1) (fun r h2 N2 hq => ?_)
          obtain ⟨hr, e1, e2⟩ := hq
          cases hr
          rw [e1, e2]
          clear e1 e2
          show q_Ev l G m_md_tick 7 165 0 0 74 [some (.ref (42)), some (.int (b)), some (.int (nI (x))), some (.int (nI (s)))] [] _ N _
          refine e_iincN (pc := 74) d_md_tick_74 (a := x) (b := 1) rfl rfl (by decide) ?_
          refine e_iincN (pc := 77) d_md_tick_77 (a := s) (b := 1) rfl rfl (by decide) ?_
          refine e_goto (pc := 80) (tgt := 35) d_md_tick_80 (by decide) ?_
          simp only [mtF] at kk
          rw [if_pos (show mxp s M = true by simp [mxp, c1, c2])] at kk
          exact ih (s + 1) (m_fin s M) (x + 1) ⟨by omega, m_fin_ok hO⟩ kk
set_option maxHeartbeats 400000 in
set_option maxRecDepth 100000 in
theorem c_md_tick {l : Launch} {G : q_G} (htr : l.stackTraces = false) {h : q_H} {N : Nat} {fa : Int32} {ld : Option Nat} {ep : Nat} {tm : Int32} {L : mL} {S : mS} {C : mC} {W : mW} {T : mT} {b : Int32} {n : Nat} (hn : n ≤ 72) (hO : mOK n ((fa, ld, ep, tm), L, S, C, W, T)) : q_Met l G m_md_tick 7 165 0 0 [.ref (42), .int (b)] (md_put h ((fa, ld, ep, tm), L, S, C, W, T)) N (q_To (some (.int (m_tick b ((fa, ld, ep, tm), L, S, C, W, T)).1)) (md_put h (m_tick b ((fa, ld, ep, tm), L, S, C, W, T)).2) N) := by
  obtain ⟨r0, hr0⟩ : ∃ r, r = m_tick b ((fa, ld, ep, tm), L, S, C, W, T) := ⟨_, rfl⟩
  rw [← hr0]
  refine q_Met.mk htr (by decide +kernel) rfl (List.forall_mem_cons.mpr ⟨rfl, List.forall_mem_cons.mpr ⟨rfl, fun _ h => nomatch h⟩⟩) (Nat.le_of_ble_eq_true rfl) ?_
  refine e_aload_n (pc := 0) d_md_tick_0 rfl ?_
  refine e_iconst (pc := 1) d_md_tick_1 (v := (nI (0))) rfl ?_
  refine e_putE (pc := 2) d_md_tick_2 (fs2 := [.int (nI (0)), .ref (43), .ref (44), .ref (45), .ref (46), .ref (47), .ref (48), .ref (49), .ref (50), .ref (51), .int (ldI ld), .int (nI (ep)), .int (tm), .ref (52), .ref (53), .ref (54), .ref (55), .ref (56), .ref (57), .ref (58), .ref (59), .ref (60), .ref (61), .ref (62), .ref (63), .ref (64), .ref (65)]) fl_md_84 md_g42 (Nat.le_of_ble_eq_true rfl) (fun _ => rfl) (fun _ => rfl) rfl ?_
  rw [md_u42 (ld := ld)]
  show q_Ev l G m_md_tick 7 165 0 0 5 [some (.ref (42)), some (.int (b)), none, none] [] (md_put h (((nI (0)), ld, (ep), (tm)), ((L.1), (L.2.1), (L.2.2.1), (L.2.2.2)), ((S.1), (S.2.1), (S.2.2.1), (S.2.2.2.1), (S.2.2.2.2)), ((C.1), (C.2.1), (C.2.2.1), (C.2.2.2.1), (C.2.2.2.2)), ((W.1), (W.2.1), (W.2.2.1), (W.2.2.2)), ((T.1), (T.2.1), (T.2.2.1), (T.2.2.2.1), (T.2.2.2.2)))) N _
  refine e_aload_n (pc := 5) d_md_tick_5 rfl ?_
  refine e_iload_n (pc := 6) d_md_tick_6 rfl ?_
  refine e_bipush (pc := 7) d_md_tick_7 (v := (nI (21))) rfl ?_
  refine e_callV (As := [.int (b), .int (nI (21))]) (st := []) (cc2 := 0) (ss2 := 0) (pc := 9) d_md_tick_9 rfl cv_md_145 md_g42 rfl (c_md_out htr) rfl (by decide) (by decide) (by omega) (by omega) (Nat.le_of_ble_eq_true rfl) (fun _ _ _ hq => nomatch hq.1) (fun r h2 N2 hq => ?_)
  obtain ⟨hr, e1, e2⟩ := hq
  cases hr
  rw [e1, e2]
  clear e1 e2
  show q_Ev l G m_md_tick 7 165 0 0 12 [some (.ref (42)), some (.int (b)), none, none] [.int (bI (decide (b < 0 ∨ ¬ b < nI 21)))] (md_put h (((nI (0)), ld, (ep), (tm)), ((L.1), (L.2.1), (L.2.2.1), (L.2.2.2)), ((S.1), (S.2.1), (S.2.2.1), (S.2.2.2.1), (S.2.2.2.2)), ((C.1), (C.2.1), (C.2.2.1), (C.2.2.2.1), (C.2.2.2.2)), ((W.1), (W.2.1), (W.2.2.1), (W.2.2.2)), ((T.1), (T.2.1), (T.2.2.1), (T.2.2.2.1), (T.2.2.2.2)))) N _
  refine e_ifB_eq (pc := 12) (tgt := 21) d_md_tick_12 (by decide) (fun co => ?_) (fun co => ?_)
  · have hb := out_f (n := 20) (by decide) co
    refine e_aload_n (pc := 21) d_md_tick_21 rfl ?_
    refine e_dup (pc := 22) d_md_tick_22 rfl ?_
    refine e_get (pc := 23) d_md_tick_23 fl_md_152 md_g42 rfl ?_
    refine e_iload_n (pc := 26) d_md_tick_26 rfl ?_
    refine e_iadd (pc := 27) d_md_tick_27  ?_
    refine e_putE (pc := 28) d_md_tick_28 (fs2 := [.int ((nI (0))), .ref (43), .ref (44), .ref (45), .ref (46), .ref (47), .ref (48), .ref (49), .ref (50), .ref (51), .int (ldI ld), .int (nI ((ep))), .int (((tm)) + (b)), .ref (52), .ref (53), .ref (54), .ref (55), .ref (56), .ref (57), .ref (58), .ref (59), .ref (60), .ref (61), .ref (62), .ref (63), .ref (64), .ref (65)]) fl_md_152 md_g42 (Nat.le_of_ble_eq_true rfl) (fun _ => rfl) (fun _ => rfl) rfl ?_
    rw [md_u42 (ld := ld)]
    show q_Ev l G m_md_tick 7 165 0 0 31 [some (.ref (42)), some (.int (b)), none, none] [] (md_put h ((((nI (0))), ld, ((ep)), (((tm)) + (b))), ((L.1), (L.2.1), (L.2.2.1), (L.2.2.2)), ((S.1), (S.2.1), (S.2.2.1), (S.2.2.2.1), (S.2.2.2.2)), ((C.1), (C.2.1), (C.2.2.1), (C.2.2.2.1), (C.2.2.2.2)), ((W.1), (W.2.1), (W.2.2.1), (W.2.2.2)), ((T.1), (T.2.1), (T.2.2.1), (T.2.2.2.1), (T.2.2.2.2)))) N _
    refine e_iconst (pc := 31) d_md_tick_31 (v := (nI (0))) rfl ?_
    refine e_istore_n (pc := 32) d_md_tick_32 (by decide) ?_
    refine e_iconst (pc := 33) d_md_tick_33 (v := (nI (0))) rfl ?_
    refine e_istore_n (pc := 34) d_md_tick_34 (by decide) ?_
    have hOM : mOK n ((nI 0, ld, ep, tm + b), L, S, C, W, T) := ⟨hO.1, hO.2.1, hO.2.2.1, hO.2.2.2⟩
    refine lp_md_tick (n := n) htr 4 0 ((nI 0, ld, ep, tm + b), L, S, C, W, T) 0 ⟨by omega, hOM⟩ ?_
    have eT := mtF_fa (c := nI 0) (g := 4) (s := 0) (X := (m_tm b ((fa, ld, ep, tm), L, S, C, W, T), 0))
    have eT1 : mtF 4 0 (((nI 0, ld, ep, tm + b), L, S, C, W, T), 0) = (m_fa (nI 0) (mtF 4 0 (m_tm b ((fa, ld, ep, tm), L, S, C, W, T), 0)).1, (mtF 4 0 (m_tm b ((fa, ld, ep, tm), L, S, C, W, T), 0)).2) := eT.symm
    obtain ⟨x9, hx9⟩ : ∃ x, x = (mtF 4 0 (((nI 0, ld, ep, tm + b), L, S, C, W, T), 0)).2 := ⟨_, rfl⟩
    rw [← hx9]
    obtain ⟨MX, hMX⟩ : ∃ M, M = (mtF 4 0 (((nI 0, ld, ep, tm + b), L, S, C, W, T), 0)).1 := ⟨_, rfl⟩
    refine q_Ev.hp (h1 := md_put h MX) (show md_put h MX = md_put h ((mtF 4 0 (((nI 0, ld, ep, tm + b), L, S, C, W, T), 0)).1) from congrArg _ hMX) ?_
    have hOX : mOK n MX := by rw [hMX]; exact mtF_ok (X := (((nI 0, ld, ep, tm + b), L, S, C, W, T), 0)) hOM
    show q_Ev l G m_md_tick 7 165 0 0 83 [some (.ref (42)), some (.int (b)), some (.int (nI (x9))), some (.int (nI (4)))] [] (md_put h MX) N _
    have eX : m_fa (nI 0) (mtF 4 0 (m_tm b ((fa, ld, ep, tm), L, S, C, W, T), 0)).1 = MX := by rw [hMX, eT1]
    have e9 : (mtF 4 0 (m_tm b ((fa, ld, ep, tm), L, S, C, W, T), 0)).2 = x9 := by rw [hx9, eT1]
    refine e_aload_n (pc := 83) d_md_tick_83 rfl ?_
    refine e_iload_n (pc := 84) d_md_tick_84 rfl ?_
    refine e_callV (As := [.int (nI (x9))]) (st := []) (cc2 := 0) (ss2 := 0) (pc := 85) d_md_tick_85 rfl cv_md_155 md_g42 rfl (c_md_end (A := MX.1) (L := MX.2.1) (S := MX.2.2.1) (C := MX.2.2.2.1) (W := MX.2.2.2.2.1) (T := MX.2.2.2.2.2) htr (show n ≤ 76 by omega) hOX) rfl (by decide) (by decide) (by omega) (by omega) (Nat.le_of_ble_eq_true rfl) (fun _ _ _ hq => nomatch hq.1) (fun r h2 N2 hq => ?_)
    obtain ⟨hr, e1, e2⟩ := hq
    cases hr
    rw [e1, e2]
    clear e1 e2
    show q_Ev l G m_md_tick 7 165 0 0 88 [some (.ref (42)), some (.int (b)), some (.int (nI (x9))), some (.int (nI (4)))] [.int (nI (x9))] _ N _
    exact e_iret (pc := 88) d_md_tick_88 rfl (by rw [hr0]; unfold m_tick; rw [if_pos hb]; unfold m_E; rw [eX, e9]; exact ⟨rfl, rfl, rfl⟩)
  · have hb := out_t (n := 20) (by decide) co
    refine e_aload_n (pc := 15) d_md_tick_15 rfl ?_
    refine e_iconst (pc := 16) d_md_tick_16 (v := (nI (1))) rfl ?_
    refine e_callV (As := [.int (nI (1))]) (st := []) (cc2 := 0) (ss2 := 0) (pc := 17) d_md_tick_17 rfl cv_md_149 md_g42 rfl (c_md_fail htr) rfl (by decide) (by decide) (by omega) (by omega) (Nat.le_of_ble_eq_true rfl) (fun _ _ _ hq => nomatch hq.1) (fun r h2 N2 hq => ?_)
    obtain ⟨hr, e1, e2⟩ := hq
    cases hr
    rw [e1, e2]
    clear e1 e2
    show q_Ev l G m_md_tick 7 165 0 0 20 [some (.ref (42)), some (.int (b)), none, none] [.int (nI (0))] _ N _
    exact e_iret (pc := 20) d_md_tick_20 rfl (by rw [hr0]; unfold m_tick; rw [if_neg hb]; exact ⟨rfl, rfl, rfl⟩)
set_option maxHeartbeats 400000 in
set_option maxRecDepth 100000 in
theorem lp_md_elect {l : Launch} {G : q_G} (htr : l.stackTraces = false) {h : q_H} {N : Nat} {A : mA} {L : mL} {S : mS} {C : mC} {W : mW} {T : mT} {Q : q_Q} (hag : ∀ s, s < 3 → S.2.2.1 s < 100000 ∧ S.1 s ≤ 80) (kk : ∀ x4, q_Ev l G m_md_elect 7 165 0 0 99 [some (.ref 42), some (.int (ldI (meK S 3).2)), some (.int (nI (meK S 3).1)), some (.int (nI 3)), x4] [] (md_put h (A, L, S, C, W, T)) N Q) : ∀ (g s : Nat) (x4 : Option Value), s + g = 3 → q_Ev l G m_md_elect 7 165 0 0 11 [some (.ref (42)), some (.int (ldI (meK S s).2)), some (.int (nI ((meK S s).1))), some (.int (nI (s))), x4] [] (md_put h (((A.1), (A.2.1), (A.2.2.1), (A.2.2.2)), ((L.1), (L.2.1), (L.2.2.1), (L.2.2.2)), ((S.1), (S.2.1), (S.2.2.1), (S.2.2.2.1), (S.2.2.2.2)), ((C.1), (C.2.1), (C.2.2.1), (C.2.2.2.1), (C.2.2.2.2)), ((W.1), (W.2.1), (W.2.2.1), (W.2.2.2)), ((T.1), (T.2.1), (T.2.2.1), (T.2.2.2.1), (T.2.2.2.2)))) N Q := by
  intro g
  induction g with
  | zero =>
    intro s x4 he
    have hkn : s = 3 := by omega
    subst hkn
    refine e_iload_n (pc := 11) d_md_elect_11 rfl ?_
    refine e_iconst (pc := 12) d_md_elect_12 (v := (nI (3))) rfl ?_
    refine e_icmp_geN (pc := 13) (tgt := 99) d_md_elect_13 (by decide) (by omega) (by omega) (fun c => ?_) (fun c => ?_)
    · exact kk x4
    · omega
  | succ g ih =>
    intro s x4 he
    obtain ⟨hb1, hb2, hb3⟩ := meK_b (S := S) s
    have hgs := hag s
    refine e_iload_n (pc := 11) d_md_elect_11 rfl ?_
    refine e_iconst (pc := 12) d_md_elect_12 (v := (nI (3))) rfl ?_
    refine e_icmp_geN (pc := 13) (tgt := 99) d_md_elect_13 (by decide) (by omega) (by omega) (fun c => ?_) (fun c => ?_)
    · omega
    · have hgs := hag s c
      refine e_aload_n (pc := 16) d_md_elect_16 rfl ?_
      refine e_iload_n (pc := 17) d_md_elect_17 rfl ?_
      refine e_callV (As := [.int (nI (s))]) (st := []) (cc2 := 0) (ss2 := 0) (pc := 18) d_md_elect_18 rfl cv_md_108 md_g42 rfl (c_md_fit htr c) rfl (by decide) (by decide) (by omega) (by omega) (Nat.le_of_ble_eq_true rfl) (fun _ _ _ hq => nomatch hq.1) (fun r h2 N2 hq => ?_)
      obtain ⟨hr, e1, e2⟩ := hq
      cases hr
      rw [e1, e2]
      clear e1 e2
      show q_Ev l G m_md_elect 7 165 0 0 21 [some (.ref (42)), some (.int (ldI (meK S s).2)), some (.int (nI ((meK S s).1))), some (.int (nI (s))), x4] [.int (bI (k_ft S.2.2.2 s))] (md_put h (((A.1), (A.2.1), (A.2.2.1), (A.2.2.2)), ((L.1), (L.2.1), (L.2.2.1), (L.2.2.2)), ((S.1), (S.2.1), (S.2.2.1), (S.2.2.2.1), (S.2.2.2.2)), ((C.1), (C.2.1), (C.2.2.1), (C.2.2.2.1), (C.2.2.2.2)), ((W.1), (W.2.1), (W.2.2.1), (W.2.2.2)), ((T.1), (T.2.1), (T.2.2.1), (T.2.2.2.1), (T.2.2.2.2)))) N _
      refine e_ifB_ne (pc := 21) (tgt := 27) d_md_elect_21 (by decide) (fun c1 => ?_) (fun c1 => ?_)
      · refine e_iincN (pc := 27) d_md_elect_27 (a := (meK S s).1) (b := 1) rfl rfl (by decide) ?_
        have e1 : meK S (s + 1) = ((meK S s).1 + 1, meB S s (meK S s).2) := by rw [meK, if_pos c1]
        have hih := fun x => ih (s + 1) x (by omega)
        rw [e1] at hih
        refine e_iload_n (pc := 30) d_md_elect_30 rfl ?_
        refine e_if_lt (pc := 31) (tgt := 49) d_md_elect_31 (by decide) (fun c2 => ?_) (fun c2 => ?_)
        · have hno : (meK S s).2 = none := (ldI_lt0 (fun i hi => by have := hb1 i hi; omega)).mp c2
          refine e_iconst (pc := 49) d_md_elect_49 (v := (bI (true))) rfl ?_
          refine e_goto (pc := 50) (tgt := 54) d_md_elect_50 (by decide) ?_
          refine e_istore (pc := 54) d_md_elect_54 (by decide) ?_
          refine e_iload (pc := 56) d_md_elect_56 rfl ?_
          refine e_ifB_ne (pc := 58) (tgt := 91) d_md_elect_58 (by decide) (fun _ => ?_) (fun z => nomatch z)
          have e2 : meB S s (meK S s).2 = some s := by rw [hno]; rfl
          rw [e2] at hih
          refine e_iload_n (pc := 91) d_md_elect_91 rfl ?_
          refine e_istore_n (pc := 92) d_md_elect_92 (by decide) ?_
          refine e_iincN (pc := 93) d_md_elect_93 (a := s) (b := 1) rfl rfl (by decide) ?_
          refine e_goto (pc := 96) (tgt := 11) d_md_elect_96 (by decide) ?_
          exact hih _
        · obtain ⟨b0, hb0⟩ : ∃ b, (meK S s).2 = some b := by cases hx : (meK S s).2 with | none => exact absurd (show ldI (meK S s).2 < 0 by rw [hx]; decide) c2 | some b => exact ⟨b, rfl⟩
          have hbs := hb1 b0 hb0
          have hgb := hag b0 (by omega)
          rw [show ldI (meK S s).2 = nI b0 by rw [hb0]; rfl]
          refine e_aload_n (pc := 34) d_md_elect_34 rfl ?_
          refine e_get (pc := 35) d_md_elect_35 fl_md_28 md_g42 rfl ?_
          refine e_iload_n (pc := 38) d_md_elect_38 rfl ?_
          refine e_naldN (pc := 39) d_md_elect_39 (f := (S.2.2.1)) md_g49 (by omega) (by decide) ?_
          refine e_aload_n (pc := 40) d_md_elect_40 rfl ?_
          refine e_get (pc := 41) d_md_elect_41 fl_md_28 md_g42 rfl ?_
          refine e_iload_n (pc := 44) d_md_elect_44 rfl ?_
          refine e_naldN (pc := 45) d_md_elect_45 (f := (S.2.2.1)) md_g49 (by omega) (by decide) ?_
          refine e_icmp_leN (pc := 46) (tgt := 53) d_md_elect_46 (by decide) (by omega) (by omega) (fun c3 => ?_) (fun c3 => ?_)
          · refine e_iconst (pc := 53) d_md_elect_53 (v := (bI (false))) rfl ?_
            refine e_istore (pc := 54) d_md_elect_54 (by decide) ?_
            refine e_iload (pc := 56) d_md_elect_56 rfl ?_
            refine e_ifB_ne (pc := 58) (tgt := 91) d_md_elect_58 (by decide) (fun z => nomatch z) (fun _ => ?_)
            refine e_aload_n (pc := 61) d_md_elect_61 rfl ?_
            refine e_get (pc := 62) d_md_elect_62 fl_md_28 md_g42 rfl ?_
            refine e_iload_n (pc := 65) d_md_elect_65 rfl ?_
            refine e_naldN (pc := 66) d_md_elect_66 (f := (S.2.2.1)) md_g49 (by omega) (by decide) ?_
            refine e_aload_n (pc := 67) d_md_elect_67 rfl ?_
            refine e_get (pc := 68) d_md_elect_68 fl_md_28 md_g42 rfl ?_
            refine e_iload_n (pc := 71) d_md_elect_71 rfl ?_
            refine e_naldN (pc := 72) d_md_elect_72 (f := (S.2.2.1)) md_g49 (by omega) (by decide) ?_
            refine e_icmp_neN (pc := 73) (tgt := 93) d_md_elect_73 (by decide) (by omega) (by omega) (fun c4 => ?_) (fun c4 => ?_)
            · have e2 : meB S s (meK S s).2 = some b0 := by rw [hb0]; exact if_neg (fun z => z.elim (fun y => by omega) (fun y => c4 y.1))
              rw [e2] at hih
              refine e_iincN (pc := 93) d_md_elect_93 (a := s) (b := 1) rfl rfl (by decide) ?_
              refine e_goto (pc := 96) (tgt := 11) d_md_elect_96 (by decide) ?_
              exact hih _
            · refine e_aload_n (pc := 76) d_md_elect_76 rfl ?_
              refine e_get (pc := 77) d_md_elect_77 fl_md_22 md_g42 rfl ?_
              refine e_iload_n (pc := 80) d_md_elect_80 rfl ?_
              refine e_naldN (pc := 81) d_md_elect_81 (f := (S.1)) md_g47 (by omega) (by decide) ?_
              refine e_aload_n (pc := 82) d_md_elect_82 rfl ?_
              refine e_get (pc := 83) d_md_elect_83 fl_md_22 md_g42 rfl ?_
              refine e_iload_n (pc := 86) d_md_elect_86 rfl ?_
              refine e_naldN (pc := 87) d_md_elect_87 (f := (S.1)) md_g47 (by omega) (by decide) ?_
              refine e_icmp_leN (pc := 88) (tgt := 93) d_md_elect_88 (by decide) (by omega) (by omega) (fun c5 => ?_) (fun c5 => ?_)
              · have e2 : meB S s (meK S s).2 = some b0 := by rw [hb0]; exact if_neg (fun z => z.elim (fun y => by omega) (fun y => by omega))
                rw [e2] at hih
                refine e_iincN (pc := 93) d_md_elect_93 (a := s) (b := 1) rfl rfl (by decide) ?_
                refine e_goto (pc := 96) (tgt := 11) d_md_elect_96 (by decide) ?_
                exact hih _
              · have e2 : meB S s (meK S s).2 = some s := by rw [hb0]; exact if_pos (Or.inr ⟨c4, c5⟩)
                rw [e2] at hih
                refine e_iload_n (pc := 91) d_md_elect_91 rfl ?_
                refine e_istore_n (pc := 92) d_md_elect_92 (by decide) ?_
                refine e_iincN (pc := 93) d_md_elect_93 (a := s) (b := 1) rfl rfl (by decide) ?_
                refine e_goto (pc := 96) (tgt := 11) d_md_elect_96 (by decide) ?_
                exact hih _
          · refine e_iconst (pc := 49) d_md_elect_49 (v := (bI (true))) rfl ?_
            refine e_goto (pc := 50) (tgt := 54) d_md_elect_50 (by decide) ?_
            refine e_istore (pc := 54) d_md_elect_54 (by decide) ?_
            refine e_iload (pc := 56) d_md_elect_56 rfl ?_
            refine e_ifB_ne (pc := 58) (tgt := 91) d_md_elect_58 (by decide) (fun _ => ?_) (fun z => nomatch z)
            have e2 : meB S s (meK S s).2 = some s := by rw [hb0]; exact if_pos (Or.inl c3)
            rw [e2] at hih
            refine e_iload_n (pc := 91) d_md_elect_91 rfl ?_
            refine e_istore_n (pc := 92) d_md_elect_92 (by decide) ?_
            refine e_iincN (pc := 93) d_md_elect_93 (a := s) (b := 1) rfl rfl (by decide) ?_
            refine e_goto (pc := 96) (tgt := 11) d_md_elect_96 (by decide) ?_
            exact hih _
      · refine e_goto (pc := 24) (tgt := 93) d_md_elect_24 (by decide) ?_
        refine e_iincN (pc := 93) d_md_elect_93 (a := s) (b := 1) rfl rfl (by decide) ?_
        refine e_goto (pc := 96) (tgt := 11) d_md_elect_96 (by decide) ?_
        have e1 : meK S (s + 1) = meK S s := by rw [meK, if_neg (by rw [c1]; decide)]
        have := ih (s + 1) x4 (by omega)
        rw [e1] at this
        exact this
set_option maxHeartbeats 400000 in
set_option maxRecDepth 100000 in
theorem c_md_elect {l : Launch} {G : q_G} (htr : l.stackTraces = false) {h : q_H} {N : Nat} {fa : Int32} {ld : Option Nat} {ep : Nat} {tm : Int32} {L : mL} {S : mS} {C : mC} {W : mW} {T : mT} (hag : ∀ s, s < 3 → S.2.2.1 s < 100000) {n : Nat} (hn : n ≤ 72) (hO : mOK n ((fa, ld, ep, tm), L, S, C, W, T)) : q_Met l G m_md_elect 7 165 0 0 [.ref (42)] (md_put h ((fa, ld, ep, tm), L, S, C, W, T)) N (q_To (some (.int (m_elect ((fa, ld, ep, tm), L, S, C, W, T)).1)) (md_put h (m_elect ((fa, ld, ep, tm), L, S, C, W, T)).2) N) := by
  obtain ⟨r0, hr0⟩ : ∃ r, r = m_elect ((fa, ld, ep, tm), L, S, C, W, T) := ⟨_, rfl⟩
  rw [← hr0]
  refine q_Met.mk htr (by decide +kernel) rfl (List.forall_mem_cons.mpr ⟨rfl, fun _ h => nomatch h⟩) (Nat.le_of_ble_eq_true rfl) ?_
  refine e_aload_n (pc := 0) d_md_elect_0 rfl ?_
  refine e_iconst (pc := 1) d_md_elect_1 (v := (nI (0))) rfl ?_
  refine e_putE (pc := 2) d_md_elect_2 (fs2 := [.int (nI (0)), .ref (43), .ref (44), .ref (45), .ref (46), .ref (47), .ref (48), .ref (49), .ref (50), .ref (51), .int (ldI ld), .int (nI (ep)), .int (tm), .ref (52), .ref (53), .ref (54), .ref (55), .ref (56), .ref (57), .ref (58), .ref (59), .ref (60), .ref (61), .ref (62), .ref (63), .ref (64), .ref (65)]) fl_md_84 md_g42 (Nat.le_of_ble_eq_true rfl) (fun _ => rfl) (fun _ => rfl) rfl ?_
  rw [md_u42 (ld := ld)]
  show q_Ev l G m_md_elect 7 165 0 0 5 [some (.ref (42)), none, none, none, none] [] (md_put h (((nI (0)), ld, (ep), (tm)), ((L.1), (L.2.1), (L.2.2.1), (L.2.2.2)), ((S.1), (S.2.1), (S.2.2.1), (S.2.2.2.1), (S.2.2.2.2)), ((C.1), (C.2.1), (C.2.2.1), (C.2.2.2.1), (C.2.2.2.2)), ((W.1), (W.2.1), (W.2.2.1), (W.2.2.2)), ((T.1), (T.2.1), (T.2.2.1), (T.2.2.2.1), (T.2.2.2.2)))) N _
  refine e_iconst (pc := 5) d_md_elect_5 (v := (-1)) rfl ?_
  refine e_istore_n (pc := 6) d_md_elect_6 (by decide) ?_
  refine e_iconst (pc := 7) d_md_elect_7 (v := (nI (0))) rfl ?_
  refine e_istore_n (pc := 8) d_md_elect_8 (by decide) ?_
  refine e_iconst (pc := 9) d_md_elect_9 (v := (nI (0))) rfl ?_
  refine e_istore_n (pc := 10) d_md_elect_10 (by decide) ?_
  refine lp_md_elect (A := (nI 0, ld, ep, tm)) (L := L) (S := S) (C := C) (W := W) (T := T) htr (fun s hs => ⟨hag s hs, Nat.le_trans (hO.2.2.2 s hs).1 (by omega)⟩) (fun x4 => ?_) 3 0 none (by omega)
  obtain ⟨hb1, hb2, hb3⟩ := meK_b (S := S) 3
  show q_Ev l G m_md_elect 7 165 0 0 99 [some (.ref (42)), some (.int (ldI (meK S 3).2)), some (.int (nI ((meK S 3).1))), some (.int (nI (3))), x4] [] (md_put h (((nI (0)), ld, ep, tm), ((L.1), (L.2.1), (L.2.2.1), (L.2.2.2)), ((S.1), (S.2.1), (S.2.2.1), (S.2.2.2.1), (S.2.2.2.2)), ((C.1), (C.2.1), (C.2.2.1), (C.2.2.2.1), (C.2.2.2.2)), ((W.1), (W.2.1), (W.2.2.1), (W.2.2.2)), ((T.1), (T.2.1), (T.2.2.1), (T.2.2.2.1), (T.2.2.2.2)))) N _
  refine e_iload_n (pc := 99) d_md_elect_99 rfl ?_
  refine e_iconst (pc := 100) d_md_elect_100 (v := (nI (2))) rfl ?_
  refine e_icmp_geN (pc := 101) (tgt := 110) d_md_elect_101 (by decide) (by omega) (by omega) (fun c2 => ?_) (fun c2 => ?_)
  · obtain ⟨b0, hb0⟩ : ∃ b, (meK S 3).2 = some b := hb2.elim (fun z => by omega) id
    have hbs := hb1 b0 hb0
    rw [show ldI (meK S 3).2 = nI b0 by rw [hb0]; rfl]
    have eS : m_elect ((fa, ld, ep, tm), L, S, C, W, T) = m_E (nI b0) (spM (m_el b0 ((fa, ld, ep, tm), L, S, C, W, T))) := by
      unfold m_elect
      rw [if_pos (show 2 ≤ (meK S 3).1 from c2)]
      show (match (meK S 3).2 with | none => _ | some b => _) = _
      rw [hb0]
    refine e_aload_n (pc := 110) d_md_elect_110 rfl ?_
    refine e_iload_n (pc := 111) d_md_elect_111 rfl ?_
    refine e_putE (pc := 112) d_md_elect_112 (fs2 := [.int ((nI (0))), .ref (43), .ref (44), .ref (45), .ref (46), .ref (47), .ref (48), .ref (49), .ref (50), .ref (51), .int (nI (b0)), .int (nI (ep)), .int (tm), .ref (52), .ref (53), .ref (54), .ref (55), .ref (56), .ref (57), .ref (58), .ref (59), .ref (60), .ref (61), .ref (62), .ref (63), .ref (64), .ref (65)]) fl_md_105 md_g42 (Nat.le_of_ble_eq_true rfl) (fun _ => rfl) (fun _ => rfl) rfl ?_
    refine q_Ev.hp (md_u42 (fa := ((nI (0)))) (ld := (some (b0))) (ep := (ep)) (tm := (tm))).symm ?_
    show q_Ev l G m_md_elect 7 165 0 0 115 [some (.ref (42)), some (.int (nI (b0))), some (.int (nI ((meK S 3).1))), some (.int (nI (3))), x4] [] (md_put h ((((nI (0))), (some (b0)), (ep), (tm)), ((L.1), (L.2.1), (L.2.2.1), (L.2.2.2)), ((S.1), (S.2.1), (S.2.2.1), (S.2.2.2.1), (S.2.2.2.2)), ((C.1), (C.2.1), (C.2.2.1), (C.2.2.2.1), (C.2.2.2.2)), ((W.1), (W.2.1), (W.2.2.1), (W.2.2.2)), ((T.1), (T.2.1), (T.2.2.1), (T.2.2.2.1), (T.2.2.2.2)))) N _
    refine e_aload_n (pc := 115) d_md_elect_115 rfl ?_
    refine e_dup (pc := 116) d_md_elect_116 rfl ?_
    refine e_get (pc := 117) d_md_elect_117 fl_md_38 md_g42 rfl ?_
    refine e_iconst (pc := 120) d_md_elect_120 (v := (nI (1))) rfl ?_
    refine e_iaddN (pc := 121) d_md_elect_121  ?_
    refine e_putE (pc := 122) d_md_elect_122 (fs2 := [.int (((nI (0)))), .ref (43), .ref (44), .ref (45), .ref (46), .ref (47), .ref (48), .ref (49), .ref (50), .ref (51), .int (nI ((b0))), .int (nI (((ep)) + (1))), .int ((tm)), .ref (52), .ref (53), .ref (54), .ref (55), .ref (56), .ref (57), .ref (58), .ref (59), .ref (60), .ref (61), .ref (62), .ref (63), .ref (64), .ref (65)]) fl_md_38 md_g42 (Nat.le_of_ble_eq_true rfl) (fun _ => rfl) (fun _ => rfl) rfl ?_
    refine q_Ev.hp (md_u42 (fa := (((nI (0))))) (ld := (some ((b0)))) (ep := (((ep)) + (1))) (tm := ((tm)))).symm ?_
    show q_Ev l G m_md_elect 7 165 0 0 125 [some (.ref (42)), some (.int (nI (b0))), some (.int (nI ((meK S 3).1))), some (.int (nI (3))), x4] [] (md_put h (((((nI (0)))), (some ((b0))), (((ep)) + (1)), ((tm))), ((L.1), (L.2.1), (L.2.2.1), (L.2.2.2)), ((S.1), (S.2.1), (S.2.2.1), (S.2.2.2.1), (S.2.2.2.2)), ((C.1), (C.2.1), (C.2.2.1), (C.2.2.2.1), (C.2.2.2.2)), ((W.1), (W.2.1), (W.2.2.1), (W.2.2.2)), ((T.1), (T.2.1), (T.2.2.1), (T.2.2.2.1), (T.2.2.2.2)))) N _
    refine e_aload_n (pc := 125) d_md_elect_125 rfl ?_
    refine e_callV (As := []) (st := []) (cc2 := 0) (ss2 := 0) (pc := 126) d_md_elect_126 rfl cv_md_125 md_g42 rfl (c_md_spread (r := b0) (n := n) htr (show n ≤ 80 by omega) hbs hO.2.1 hO.2.2.1 hO.2.2.2) rfl (by decide) (by decide) (by omega) (by omega) (Nat.le_of_ble_eq_true rfl) (fun _ _ _ hq => nomatch hq.1) (fun r h2 N2 hq => ?_)
    obtain ⟨hr, e1, e2⟩ := hq
    cases hr
    rw [e1, e2]
    clear e1 e2
    show q_Ev l G m_md_elect 7 165 0 0 129 [some (.ref (42)), some (.int (nI (b0))), some (.int (nI ((meK S 3).1))), some (.int (nI (3))), x4] [] _ N _
    obtain ⟨MX, hMX⟩ : ∃ M, M = spM ((nI 0, some b0, ep + 1, tm), L, S, C, W, T) := ⟨_, rfl⟩
    refine q_Ev.hp (h1 := md_put h MX) (show md_put h MX = md_put h (spM ((nI 0, some b0, ep + 1, tm), L, S, C, W, T)) from congrArg _ hMX) ?_
    have hOX : mOK n MX := by rw [hMX]; exact (spM_ok (M := ((nI 0, some b0, ep + 1, tm), L, S, C, W, T)) ⟨fun k z => by cases z; exact hbs, hO.2.1, hO.2.2.1, hO.2.2.2⟩ (by omega)).1
    show q_Ev l G m_md_elect 7 165 0 0 129 [some (.ref (42)), some (.int (nI (b0))), some (.int (nI ((meK S 3).1))), some (.int (nI (3))), x4] [] (md_put h MX) N _
    have eX : m_fa (nI 0) (spM (m_el b0 ((fa, ld, ep, tm), L, S, C, W, T))) = MX := by rw [hMX]; rfl
    have eA : MX.1 = (nI 0, some b0, ep + 1, tm) := by rw [hMX]; rfl
    have eL : ldI MX.1.2.1 = nI b0 := by rw [eA]; rfl
    refine e_aload_n (pc := 129) d_md_elect_129 rfl ?_
    refine e_aload_n (pc := 130) d_md_elect_130 rfl ?_
    refine e_get (pc := 131) d_md_elect_131 fl_md_105 md_g42 rfl ?_
    rw [eL]
    refine e_callV (As := [.int (nI (b0))]) (st := []) (cc2 := 0) (ss2 := 0) (pc := 134) d_md_elect_134 rfl cv_md_155 md_g42 rfl (c_md_end (A := MX.1) (L := MX.2.1) (S := MX.2.2.1) (C := MX.2.2.2.1) (W := MX.2.2.2.2.1) (T := MX.2.2.2.2.2) htr (show n ≤ 76 by omega) hOX) rfl (by decide) (by decide) (by omega) (by omega) (Nat.le_of_ble_eq_true rfl) (fun _ _ _ hq => nomatch hq.1) (fun r h2 N2 hq => ?_)
    obtain ⟨hr, e1, e2⟩ := hq
    cases hr
    rw [e1, e2]
    clear e1 e2
    show q_Ev l G m_md_elect 7 165 0 0 137 [some (.ref (42)), some (.int (nI (b0))), some (.int (nI ((meK S 3).1))), some (.int (nI (3))), x4] [.int (nI (b0))] _ N _
    exact e_iret (pc := 137) d_md_elect_137 rfl (by rw [hr0, eS]; unfold m_E; rw [eX]; exact ⟨rfl, rfl, rfl⟩)
  · refine e_aload_n (pc := 104) d_md_elect_104 rfl ?_
    refine e_iconst (pc := 105) d_md_elect_105 (v := (nI (1))) rfl ?_
    refine e_callV (As := [.int (nI (1))]) (st := []) (cc2 := 0) (ss2 := 0) (pc := 106) d_md_elect_106 rfl cv_md_149 md_g42 rfl (c_md_fail htr) rfl (by decide) (by decide) (by omega) (by omega) (Nat.le_of_ble_eq_true rfl) (fun _ _ _ hq => nomatch hq.1) (fun r h2 N2 hq => ?_)
    obtain ⟨hr, e1, e2⟩ := hq
    cases hr
    rw [e1, e2]
    clear e1 e2
    show q_Ev l G m_md_elect 7 165 0 0 109 [some (.ref (42)), some (.int (ldI (meK S 3).2)), some (.int (nI ((meK S 3).1))), some (.int (nI (3))), x4] [.int (nI (0))] _ N _
    exact e_iret (pc := 109) d_md_elect_109 rfl (by rw [hr0]; unfold m_elect; rw [if_neg (show ¬ 2 ≤ (meK S 3).1 by omega)]; exact ⟨rfl, rfl, rfl⟩)
