/-! THE MODEL'S PUBLIC METHODS (5) -/
section PS
variable {fa : Int32} {r ep : Nat} {tm : Int32} {L : mL} {S : mS} {C : mC} {W : mW} {T : mT}
theorem spM_fa {c : Int32} : m_fa c (spM ((fa, some r, ep, tm), L, S, C, W, T)) = spM ((c, some r, ep, tm), L, S, C, W, T) := rfl
theorem spM_n {c : Int32} : spM ((c, none, ep, tm), L, S, C, W, T) = ((c, none, ep, tm), L, S, C, W, T) := rfl
end PS
theorem bI_inj2 {a b : Bool} : bI a = bI b ↔ a = b := by cases a <;> cases b <;> decide
def m_stT (i : Nat) (M : mR) : mR := (M.1, M.2.1, M.2.2.1, M.2.2.2.1, M.2.2.2.2.1, grT M.2.1 i (M.2.2.1.2.1 i) M.2.2.2.2.2)
def m_state (i w : Int32) (M : mR) : Int32 × mR := if (nI 0 ≤ i ∧ i ≤ nI 2) ∧ (nI 0 ≤ w ∧ w ≤ nI 5) then ((if nT w = 0 then nI (M.2.2.1.1 (nT i)) else if nT w = 1 then nI (M.2.2.1.2.1 (nT i)) else if nT w = 2 then bI (!M.2.2.1.2.2.2.1 (nT i)) else if nT w = 3 then bI (m_lk M (nT i)) else if nT w = 4 then nI (cntB (m_stT (nT i) M).2.2.2.2.2.1 259) else nI (M.2.2.1.2.2.1 (nT i))), m_fa (nI 0) (m_stT (nT i) M)) else m_F 1 M
def m_count (w : Int32) (M : mR) : Int32 × mR := if (nI 0 ≤ w ∧ w ≤ nI 7) then ((if nT w = 0 then M.1.2.2.2 else if nT w = 1 then ldI M.1.2.1 else if nT w = 2 then nI M.1.2.2.1 else if nT w = 3 then bI (m_qr M) else nI (if M.2.2.2.1.1 (nT w - 4) then 1 else if M.2.2.2.1.2.1 (nT w - 4) then 2 else 0)), m_fa (nI 0) M) else m_F 1 M
def m_dn (i : Nat) (b : Bool) (M : mR) : mR := (M.1, M.2.1, (M.2.2.1.1, M.2.2.1.2.1, M.2.2.1.2.2.1, va_up M.2.2.1.2.2.2.1 i b, M.2.2.1.2.2.2.2), M.2.2.2)
def m_ct (i : Nat) (b : Bool) (M : mR) : mR := (M.1, M.2.1, (M.2.2.1.1, M.2.2.1.2.1, M.2.2.1.2.2.1, M.2.2.1.2.2.2.1, va_up M.2.2.1.2.2.2.2 i b), M.2.2.2)
def m_restart (i : Int32) (M : mR) : Int32 × mR := if (nI 0 ≤ i ∧ i ≤ nI 2) then if M.2.2.1.2.2.2.1 (nT i) = true then m_E (nI ((spM (m_dn (nT i) false M)).2.2.1.2.1 (nT i))) (spM (m_dn (nT i) false M)) else m_F 2 M else m_F 1 M
def m_alone (i : Int32) (b : Bool) (M : mR) : Int32 × mR := if (nI 0 ≤ i ∧ i ≤ nI 2) then m_E (if M.2.2.1.2.2.2.2 (nT i) = b then nI 0 else nI 1) (spM (m_ct (nT i) b M)) else m_F 1 M
set_option maxHeartbeats 400000 in
set_option maxRecDepth 100000 in
theorem lp_md_state {l : Launch} {G : q_G} (htr : l.stackTraces = false) {h : q_H} {N : Nat} {A : mA} {L : mL} {S : mS} {C : mC} {W : mW} {T : mT} {Q : q_Q} {i w : Nat} : ∀ (g k : Nat), k + g = 259 → (∀ k2, q_Ev l G m_md_state 4 96 0 0 78 [some (.ref 42), some (.int (nI i)), some (.int (nI w)), some (.int (nI (cntB (T.1) 259))), some (.int (nI k2))] [] (md_put h (A, L, S, C, W, T)) N Q) → q_Ev l G m_md_state 4 96 0 0 46 [some (.ref (42)), some (.int (nI (i))), some (.int (nI (w))), some (.int (nI (cntB (T.1) k))), some (.int (nI (k)))] [] (md_put h (((A.1), (A.2.1), (A.2.2.1), (A.2.2.2)), ((L.1), (L.2.1), (L.2.2.1), (L.2.2.2)), ((S.1), (S.2.1), (S.2.2.1), (S.2.2.2.1), (S.2.2.2.2)), ((C.1), (C.2.1), (C.2.2.1), (C.2.2.2.1), (C.2.2.2.2)), ((W.1), (W.2.1), (W.2.2.1), (W.2.2.2)), ((T.1), (T.2.1), (T.2.2.1), (T.2.2.2.1), (T.2.2.2.2)))) N Q := by
  intro g
  induction g with
  | zero =>
    intro k he
    intro kk
    have hkn : k = 259 := by omega
    subst hkn
    refine e_iload (pc := 46) d_md_state_46 rfl ?_
    refine e_sipush (pc := 48) d_md_state_48 (v := (nI (259))) rfl ?_
    refine e_icmp_geN (pc := 51) (tgt := 78) d_md_state_51 (by decide) (by omega) (by omega) (fun c => ?_) (fun c => ?_)
    · exact kk 259
    · omega
  | succ g ih =>
    intro k he
    intro kk
    have hle := cntB_le T.1 k
    refine e_iload (pc := 46) d_md_state_46 rfl ?_
    refine e_sipush (pc := 48) d_md_state_48 (v := (nI (259))) rfl ?_
    refine e_icmp_geN (pc := 51) (tgt := 78) d_md_state_51 (by decide) (by omega) (by omega) (fun c => ?_) (fun c => ?_)
    · omega
    · refine e_iload_n (pc := 54) d_md_state_54 rfl ?_
      refine e_aload_n (pc := 55) d_md_state_55 rfl ?_
      refine e_get (pc := 56) d_md_state_56 fl_md_69 md_g42 rfl ?_
      refine e_iload (pc := 59) d_md_state_59 rfl ?_
      refine e_zaldN (pc := 61) d_md_state_61 (f := (T.1)) md_g61 (by omega) (by decide) ?_
      refine e_ifB_eq (pc := 62) (tgt := 69) d_md_state_62 (by decide) (fun c1 => ?_) (fun c1 => ?_)
      · refine e_iconst (pc := 69) d_md_state_69 (v := (nI (0))) rfl ?_
        refine e_iaddN (pc := 70) d_md_state_70  ?_
        refine e_istore_n (pc := 71) d_md_state_71 (by decide) ?_
        refine e_iincN (pc := 72) d_md_state_72 (a := k) (b := 1) rfl rfl (by decide) ?_
        refine e_goto (pc := 75) (tgt := 46) d_md_state_75 (by decide) ?_
        have e : cntB T.1 (k + 1) = cntB T.1 k + 0 := by simp [cntB, c1]
        have := ih (k + 1) (by omega) kk
        rw [e] at this
        exact this
      · refine e_iconst (pc := 65) d_md_state_65 (v := (nI (1))) rfl ?_
        refine e_goto (pc := 66) (tgt := 70) d_md_state_66 (by decide) ?_
        refine e_iaddN (pc := 70) d_md_state_70  ?_
        refine e_istore_n (pc := 71) d_md_state_71 (by decide) ?_
        refine e_iincN (pc := 72) d_md_state_72 (a := k) (b := 1) rfl rfl (by decide) ?_
        refine e_goto (pc := 75) (tgt := 46) d_md_state_75 (by decide) ?_
        have e : cntB T.1 (k + 1) = cntB T.1 k + 1 := by simp [cntB, c1]
        have := ih (k + 1) (by omega) kk
        rw [e] at this
        exact this
set_option maxHeartbeats 400000 in
set_option maxRecDepth 100000 in
theorem c_md_state {l : Launch} {G : q_G} (htr : l.stackTraces = false) {h : q_H} {N : Nat} {fa : Int32} {ld : Option Nat} {ep : Nat} {tm : Int32} {L : mL} {S : mS} {C : mC} {W : mW} {T : mT} {i w : Int32} {n : Nat} (hn : n ≤ 72) (hO : mOK n ((fa, ld, ep, tm), L, S, C, W, T)) : q_Met l G m_md_state 4 96 0 0 [.ref (42), .int (i), .int (w)] (md_put h ((fa, ld, ep, tm), L, S, C, W, T)) N (q_To (some (.int (m_state i w ((fa, ld, ep, tm), L, S, C, W, T)).1)) (md_put h (m_state i w ((fa, ld, ep, tm), L, S, C, W, T)).2) N) := by
  obtain ⟨r0, hr0⟩ : ∃ r, r = m_state i w ((fa, ld, ep, tm), L, S, C, W, T) := ⟨_, rfl⟩
  rw [← hr0]
  refine q_Met.mk htr (by decide +kernel) rfl (List.forall_mem_cons.mpr ⟨rfl, List.forall_mem_cons.mpr ⟨rfl, List.forall_mem_cons.mpr ⟨rfl, fun _ h => nomatch h⟩⟩⟩) (Nat.le_of_ble_eq_true rfl) ?_
  refine e_aload_n (pc := 0) d_md_state_0 rfl ?_
  refine e_iconst (pc := 1) d_md_state_1 (v := (nI (0))) rfl ?_
  refine e_putE (pc := 2) d_md_state_2 (fs2 := [.int (nI (0)), .ref (43), .ref (44), .ref (45), .ref (46), .ref (47), .ref (48), .ref (49), .ref (50), .ref (51), .int (ldI ld), .int (nI (ep)), .int (tm), .ref (52), .ref (53), .ref (54), .ref (55), .ref (56), .ref (57), .ref (58), .ref (59), .ref (60), .ref (61), .ref (62), .ref (63), .ref (64), .ref (65)]) fl_md_84 md_g42 (Nat.le_of_ble_eq_true rfl) (fun _ => rfl) (fun _ => rfl) rfl ?_
  rw [md_u42 (ld := ld)]
  show q_Ev l G m_md_state 4 96 0 0 5 [some (.ref (42)), some (.int (i)), some (.int (w)), none, none] [] (md_put h (((nI (0)), ld, (ep), (tm)), ((L.1), (L.2.1), (L.2.2.1), (L.2.2.2)), ((S.1), (S.2.1), (S.2.2.1), (S.2.2.2.1), (S.2.2.2.2)), ((C.1), (C.2.1), (C.2.2.1), (C.2.2.2.1), (C.2.2.2.2)), ((W.1), (W.2.1), (W.2.2.1), (W.2.2.2)), ((T.1), (T.2.1), (T.2.2.1), (T.2.2.2.1), (T.2.2.2.2)))) N _
  refine e_aload_n (pc := 5) d_md_state_5 rfl ?_
  refine e_iload_n (pc := 6) d_md_state_6 rfl ?_
  refine e_iconst (pc := 7) d_md_state_7 (v := (nI (3))) rfl ?_
  refine e_callV (As := [.int (i), .int (nI (3))]) (st := []) (cc2 := 0) (ss2 := 0) (pc := 8) d_md_state_8 rfl cv_md_145 md_g42 rfl (c_md_out htr) rfl (by decide) (by decide) (by omega) (by omega) (Nat.le_of_ble_eq_true rfl) (fun _ _ _ hq => nomatch hq.1) (fun r h2 N2 hq => ?_)
  obtain ⟨hr, e1, e2⟩ := hq
  cases hr
  rw [e1, e2]
  clear e1 e2
  show q_Ev l G m_md_state 4 96 0 0 11 [some (.ref (42)), some (.int (i)), some (.int (w)), none, none] [.int (bI (decide (i < 0 ∨ ¬ i < nI 3)))] (md_put h (((nI (0)), ld, (ep), (tm)), ((L.1), (L.2.1), (L.2.2.1), (L.2.2.2)), ((S.1), (S.2.1), (S.2.2.1), (S.2.2.2.1), (S.2.2.2.2)), ((C.1), (C.2.1), (C.2.2.1), (C.2.2.2.1), (C.2.2.2.2)), ((W.1), (W.2.1), (W.2.2.1), (W.2.2.2)), ((T.1), (T.2.1), (T.2.2.1), (T.2.2.2.1), (T.2.2.2.2)))) N _
  refine e_ifB_ne (pc := 11) (tgt := 24) d_md_state_11 (by decide) (fun co => ?_) (fun co => ?_)
  · have hi := out_t (n := 2) (by decide) co
    refine e_aload_n (pc := 24) d_md_state_24 rfl ?_
    refine e_iconst (pc := 25) d_md_state_25 (v := (nI (1))) rfl ?_
    refine e_callV (As := [.int (nI (1))]) (st := []) (cc2 := 0) (ss2 := 0) (pc := 26) d_md_state_26 rfl cv_md_149 md_g42 rfl (c_md_fail htr) rfl (by decide) (by decide) (by omega) (by omega) (Nat.le_of_ble_eq_true rfl) (fun _ _ _ hq => nomatch hq.1) (fun r h2 N2 hq => ?_)
    obtain ⟨hr, e1, e2⟩ := hq
    cases hr
    rw [e1, e2]
    clear e1 e2
    show q_Ev l G m_md_state 4 96 0 0 29 [some (.ref (42)), some (.int (i)), some (.int (w)), none, none] [.int (nI (0))] _ N _
    exact e_iret (pc := 29) d_md_state_29 rfl (by rw [hr0]; unfold m_state; rw [if_neg (fun z => hi z.1)]; exact ⟨rfl, rfl, rfl⟩)
  · have hi := out_f (n := 2) (by decide) co
    refine e_aload_n (pc := 14) d_md_state_14 rfl ?_
    refine e_iload_n (pc := 15) d_md_state_15 rfl ?_
    refine e_bipush (pc := 16) d_md_state_16 (v := (nI (6))) rfl ?_
    refine e_callV (As := [.int (w), .int (nI (6))]) (st := []) (cc2 := 0) (ss2 := 0) (pc := 18) d_md_state_18 rfl cv_md_145 md_g42 rfl (c_md_out htr) rfl (by decide) (by decide) (by omega) (by omega) (Nat.le_of_ble_eq_true rfl) (fun _ _ _ hq => nomatch hq.1) (fun r h2 N2 hq => ?_)
    obtain ⟨hr, e1, e2⟩ := hq
    cases hr
    rw [e1, e2]
    clear e1 e2
    show q_Ev l G m_md_state 4 96 0 0 21 [some (.ref (42)), some (.int (i)), some (.int (w)), none, none] [.int (bI (decide (w < 0 ∨ ¬ w < nI 6)))] (md_put h (((nI (0)), ld, (ep), (tm)), ((L.1), (L.2.1), (L.2.2.1), (L.2.2.2)), ((S.1), (S.2.1), (S.2.2.1), (S.2.2.2.1), (S.2.2.2.2)), ((C.1), (C.2.1), (C.2.2.1), (C.2.2.2.1), (C.2.2.2.2)), ((W.1), (W.2.1), (W.2.2.1), (W.2.2.2)), ((T.1), (T.2.1), (T.2.2.1), (T.2.2.2.1), (T.2.2.2.2)))) N _
    refine e_ifB_eq (pc := 21) (tgt := 30) d_md_state_21 (by decide) (fun co => ?_) (fun co => ?_)
    · have hw := out_f (n := 5) (by decide) co
      have hi1 := hi
      have hw1 := hw
      obtain ⟨k, hk, ek⟩ := q_ofL (n := 2) (by decide) hi
      subst ek
      obtain ⟨v, hv, ev⟩ := q_ofL (n := 5) (by decide) hw
      subst ev
      have hLj := hO.2.2.2 k hk
      have hap8 : S.2.1 k ≤ 80 := by have : S.2.1 k ≤ n := hLj.2.1; omega
      refine e_iconst (pc := 30) d_md_state_30 (v := (nI (0))) rfl ?_
      refine e_istore_n (pc := 31) d_md_state_31 (by decide) ?_
      refine e_aload_n (pc := 32) d_md_state_32 rfl ?_
      refine e_iload_n (pc := 33) d_md_state_33 rfl ?_
      refine e_aload_n (pc := 34) d_md_state_34 rfl ?_
      refine e_get (pc := 35) d_md_state_35 fl_md_25 md_g42 rfl ?_
      refine e_iload_n (pc := 38) d_md_state_38 rfl ?_
      refine e_naldN (pc := 39) d_md_state_39 (f := (S.2.1)) md_g48 (by omega) (by decide) ?_
      refine e_callV (As := [.int (nI (k)), .int (nI (((S.2.1)) (k)))]) (st := []) (cc2 := 0) (ss2 := 0) (pc := 40) d_md_state_40 rfl cv_md_122 md_g42 rfl (c_md_grow htr hO.2.1 hO.2.2.1 hk hap8 (fun k hk => hLj.2.2 k (Or.inr hk))) rfl (by decide) (by decide) (by omega) (by omega) (Nat.le_of_ble_eq_true rfl) (fun _ _ _ hq => nomatch hq.1) (fun r h2 N2 hq => ?_)
      obtain ⟨hr, e1, e2⟩ := hq
      cases hr
      rw [e1, e2]
      clear e1 e2
      show q_Ev l G m_md_state 4 96 0 0 43 [some (.ref (42)), some (.int (nI (k))), some (.int (nI (v))), some (.int (nI (0))), none] [] _ N _
      show q_Ev l G m_md_state 4 96 0 0 43 [some (.ref (42)), some (.int (nI (k))), some (.int (nI (v))), some (.int (nI (0))), none] [] (md_put h (((nI (0)), ld, ep, tm), ((L.1), (L.2.1), (L.2.2.1), (L.2.2.2)), ((S.1), (S.2.1), (S.2.2.1), (S.2.2.2.1), (S.2.2.2.2)), ((C.1), (C.2.1), (C.2.2.1), (C.2.2.2.1), (C.2.2.2.2)), ((W.1), (W.2.1), (W.2.2.1), (W.2.2.2)), (((grT L k (S.2.1 k) T).1), ((grT L k (S.2.1 k) T).2.1), ((grT L k (S.2.1 k) T).2.2.1), ((grT L k (S.2.1 k) T).2.2.2.1), ((grT L k (S.2.1 k) T).2.2.2.2)))) N _
      refine e_iconst (pc := 43) d_md_state_43 (v := (nI (0))) rfl ?_
      refine e_istore (pc := 44) d_md_state_44 (by decide) ?_
      refine lp_md_state (A := (nI 0, ld, ep, tm)) (L := L) (S := S) (C := C) (W := W) (T := (grT L k (S.2.1 k) T)) htr 259 0 (by omega) (fun k2 => ?_)
      show q_Ev l G m_md_state 4 96 0 0 78 [some (.ref (42)), some (.int (nI (k))), some (.int (nI (v))), some (.int (nI (cntB (grT L k (S.2.1 k) T).1 259))), some (.int (nI (k2)))] [] (md_put h (((nI (0)), ld, ep, tm), ((L.1), (L.2.1), (L.2.2.1), (L.2.2.2)), ((S.1), (S.2.1), (S.2.2.1), (S.2.2.2.1), (S.2.2.2.2)), ((C.1), (C.2.1), (C.2.2.1), (C.2.2.2.1), (C.2.2.2.2)), ((W.1), (W.2.1), (W.2.2.1), (W.2.2.2)), (((grT L k (S.2.1 k) T).1), ((grT L k (S.2.1 k) T).2.1), ((grT L k (S.2.1 k) T).2.2.1), ((grT L k (S.2.1 k) T).2.2.2.1), ((grT L k (S.2.1 k) T).2.2.2.2)))) N _
      refine e_iload_n (pc := 78) d_md_state_78 rfl ?_
      rcases (by omega : v = 0 ∨ v = 1 ∨ v = 2 ∨ v = 3 ∨ v = 4 ∨ v = 5) with rfl | rfl | rfl | rfl | rfl | rfl
      · refine e_tableIn (pc := 79) (off := 33) (tgt := 112) d_md_state_79 (by decide) (by decide) (by decide) (by decide) ?_
        refine e_aload_n (pc := 112) d_md_state_112 rfl ?_
        refine e_get (pc := 113) d_md_state_113 fl_md_22 md_g42 rfl ?_
        refine e_iload_n (pc := 116) d_md_state_116 rfl ?_
        refine e_naldN (pc := 117) d_md_state_117 (f := (S.1)) md_g47 (by omega) (by decide) ?_
        exact e_iret (pc := 118) d_md_state_118 rfl (by rw [hr0]; unfold m_state; rw [if_pos ⟨hi1, hw1⟩, nT_n (show k < 2 ^ 31 by omega)]; exact ⟨rfl, rfl, rfl⟩)
      · refine e_tableIn (pc := 79) (off := 40) (tgt := 119) d_md_state_79 (by decide) (by decide) (by decide) (by decide) ?_
        refine e_aload_n (pc := 119) d_md_state_119 rfl ?_
        refine e_get (pc := 120) d_md_state_120 fl_md_25 md_g42 rfl ?_
        refine e_iload_n (pc := 123) d_md_state_123 rfl ?_
        refine e_naldN (pc := 124) d_md_state_124 (f := (S.2.1)) md_g48 (by omega) (by decide) ?_
        exact e_iret (pc := 125) d_md_state_125 rfl (by rw [hr0]; unfold m_state; rw [if_pos ⟨hi1, hw1⟩, nT_n (show k < 2 ^ 31 by omega)]; exact ⟨rfl, rfl, rfl⟩)
      · refine e_tableIn (pc := 79) (off := 47) (tgt := 126) d_md_state_79 (by decide) (by decide) (by decide) (by decide) ?_
        refine e_aload_n (pc := 126) d_md_state_126 rfl ?_
        refine e_get (pc := 127) d_md_state_127 fl_md_31 md_g42 rfl ?_
        refine e_iload_n (pc := 130) d_md_state_130 rfl ?_
        refine e_zaldN (pc := 131) d_md_state_131 (f := (S.2.2.2.1)) md_g50 (by omega) (by decide) ?_
        refine e_ifB_eq (pc := 132) (tgt := 139) d_md_state_132 (by decide) (fun c => ?_) (fun c => ?_)
        · refine e_iconst (pc := 139) d_md_state_139 (v := (nI (1))) rfl ?_
          exact e_iret (pc := 140) d_md_state_140 rfl (by rw [hr0]; unfold m_state; rw [if_pos ⟨hi1, hw1⟩, nT_n (show k < 2 ^ 31 by omega)]; refine ⟨?_, rfl, rfl⟩; show _ = Sum.inl (some (Value.int (bI (!S.2.2.2.1 k)))); rw [show S.2.2.2.1 k = false from c]; rfl)
        · refine e_iconst (pc := 135) d_md_state_135 (v := (nI (0))) rfl ?_
          refine e_goto (pc := 136) (tgt := 140) d_md_state_136 (by decide) ?_
          exact e_iret (pc := 140) d_md_state_140 rfl (by rw [hr0]; unfold m_state; rw [if_pos ⟨hi1, hw1⟩, nT_n (show k < 2 ^ 31 by omega)]; refine ⟨?_, rfl, rfl⟩; show _ = Sum.inl (some (Value.int (bI (!S.2.2.2.1 k)))); rw [show S.2.2.2.1 k = true from c]; rfl)
      · refine e_tableIn (pc := 79) (off := 62) (tgt := 141) d_md_state_79 (by decide) (by decide) (by decide) (by decide) ?_
        refine e_aload_n (pc := 141) d_md_state_141 rfl ?_
        refine e_iload_n (pc := 142) d_md_state_142 rfl ?_
        refine e_callV (As := [.int (nI (k))]) (st := []) (cc2 := 0) (ss2 := 0) (pc := 143) d_md_state_143 rfl cv_md_112 md_g42 rfl (c_md_linked (M := ((nI 0, ld, ep, tm), L, S, C, W, (grT L k (S.2.1 k) T))) htr hO.1 hk) rfl (by decide) (by decide) (by omega) (by omega) (Nat.le_of_ble_eq_true rfl) (fun _ _ _ hq => nomatch hq.1) (fun r h2 N2 hq => ?_)
        obtain ⟨hr, e1, e2⟩ := hq
        cases hr
        rw [e1, e2]
        clear e1 e2
        show q_Ev l G m_md_state 4 96 0 0 146 [some (.ref (42)), some (.int (nI (k))), some (.int (nI (3))), some (.int (nI (cntB (grT L k (S.2.1 k) T).1 259))), some (.int (nI (k2)))] [.int (bI (m_lk ((fa, ld, ep, tm), L, S, C, W, T) k))] (md_put h (((nI (0)), ld, ep, tm), ((L.1), (L.2.1), (L.2.2.1), (L.2.2.2)), ((S.1), (S.2.1), (S.2.2.1), (S.2.2.2.1), (S.2.2.2.2)), ((C.1), (C.2.1), (C.2.2.1), (C.2.2.2.1), (C.2.2.2.2)), ((W.1), (W.2.1), (W.2.2.1), (W.2.2.2)), (((grT L k (S.2.1 k) T).1), ((grT L k (S.2.1 k) T).2.1), ((grT L k (S.2.1 k) T).2.2.1), ((grT L k (S.2.1 k) T).2.2.2.1), ((grT L k (S.2.1 k) T).2.2.2.2)))) N _
        refine e_ifB_eq (pc := 146) (tgt := 153) d_md_state_146 (by decide) (fun c => ?_) (fun c => ?_)
        · refine e_iconst (pc := 153) d_md_state_153 (v := (nI (0))) rfl ?_
          exact e_iret (pc := 154) d_md_state_154 rfl (by rw [hr0]; unfold m_state; rw [if_pos ⟨hi1, hw1⟩, nT_n (show k < 2 ^ 31 by omega)]; refine ⟨?_, rfl, rfl⟩; show _ = Sum.inl (some (Value.int (bI (m_lk ((fa, ld, ep, tm), L, S, C, W, T) k)))); rw [c]; rfl)
        · refine e_iconst (pc := 149) d_md_state_149 (v := (nI (1))) rfl ?_
          refine e_goto (pc := 150) (tgt := 154) d_md_state_150 (by decide) ?_
          exact e_iret (pc := 154) d_md_state_154 rfl (by rw [hr0]; unfold m_state; rw [if_pos ⟨hi1, hw1⟩, nT_n (show k < 2 ^ 31 by omega)]; refine ⟨?_, rfl, rfl⟩; show _ = Sum.inl (some (Value.int (bI (m_lk ((fa, ld, ep, tm), L, S, C, W, T) k)))); rw [c]; rfl)
      · refine e_tableIn (pc := 79) (off := 76) (tgt := 155) d_md_state_79 (by decide) (by decide) (by decide) (by decide) ?_
        refine e_iload_n (pc := 155) d_md_state_155 rfl ?_
        exact e_iret (pc := 156) d_md_state_156 rfl (by rw [hr0]; unfold m_state; rw [if_pos ⟨hi1, hw1⟩, nT_n (show k < 2 ^ 31 by omega)]; exact ⟨rfl, rfl, rfl⟩)
      · refine e_tableOut (pc := 79) (tgt := 157) d_md_state_79 (Or.inr (by decide)) (by decide) ?_
        refine e_aload_n (pc := 157) d_md_state_157 rfl ?_
        refine e_get (pc := 158) d_md_state_158 fl_md_28 md_g42 rfl ?_
        refine e_iload_n (pc := 161) d_md_state_161 rfl ?_
        refine e_naldN (pc := 162) d_md_state_162 (f := (S.2.2.1)) md_g49 (by omega) (by decide) ?_
        exact e_iret (pc := 163) d_md_state_163 rfl (by rw [hr0]; unfold m_state; rw [if_pos ⟨hi1, hw1⟩, nT_n (show k < 2 ^ 31 by omega)]; exact ⟨rfl, rfl, rfl⟩)
    · have hw := out_t (n := 5) (by decide) co
      refine e_aload_n (pc := 24) d_md_state_24 rfl ?_
      refine e_iconst (pc := 25) d_md_state_25 (v := (nI (1))) rfl ?_
      refine e_callV (As := [.int (nI (1))]) (st := []) (cc2 := 0) (ss2 := 0) (pc := 26) d_md_state_26 rfl cv_md_149 md_g42 rfl (c_md_fail htr) rfl (by decide) (by decide) (by omega) (by omega) (Nat.le_of_ble_eq_true rfl) (fun _ _ _ hq => nomatch hq.1) (fun r h2 N2 hq => ?_)
      obtain ⟨hr, e1, e2⟩ := hq
      cases hr
      rw [e1, e2]
      clear e1 e2
      show q_Ev l G m_md_state 4 96 0 0 29 [some (.ref (42)), some (.int (i)), some (.int (w)), none, none] [.int (nI (0))] _ N _
      exact e_iret (pc := 29) d_md_state_29 rfl (by rw [hr0]; unfold m_state; rw [if_neg (fun z => hw z.2)]; exact ⟨rfl, rfl, rfl⟩)
set_option maxHeartbeats 400000 in
set_option maxRecDepth 100000 in
theorem c_md_count {l : Launch} {G : q_G} (htr : l.stackTraces = false) {h : q_H} {N : Nat} {fa : Int32} {ld : Option Nat} {ep : Nat} {tm : Int32} {L : mL} {S : mS} {C : mC} {W : mW} {T : mT} {w : Int32} {n : Nat} (hn : n ≤ 72) (hO : mOK n ((fa, ld, ep, tm), L, S, C, W, T)) : q_Met l G m_md_count 3 64 0 0 [.ref (42), .int (w)] (md_put h ((fa, ld, ep, tm), L, S, C, W, T)) N (q_To (some (.int (m_count w ((fa, ld, ep, tm), L, S, C, W, T)).1)) (md_put h (m_count w ((fa, ld, ep, tm), L, S, C, W, T)).2) N) := by
  obtain ⟨r0, hr0⟩ : ∃ r, r = m_count w ((fa, ld, ep, tm), L, S, C, W, T) := ⟨_, rfl⟩
  rw [← hr0]
  refine q_Met.mk htr (by decide +kernel) rfl (List.forall_mem_cons.mpr ⟨rfl, List.forall_mem_cons.mpr ⟨rfl, fun _ h => nomatch h⟩⟩) (Nat.le_of_ble_eq_true rfl) ?_
  refine e_aload_n (pc := 0) d_md_count_0 rfl ?_
  refine e_iconst (pc := 1) d_md_count_1 (v := (nI (0))) rfl ?_
  refine e_putE (pc := 2) d_md_count_2 (fs2 := [.int (nI (0)), .ref (43), .ref (44), .ref (45), .ref (46), .ref (47), .ref (48), .ref (49), .ref (50), .ref (51), .int (ldI ld), .int (nI (ep)), .int (tm), .ref (52), .ref (53), .ref (54), .ref (55), .ref (56), .ref (57), .ref (58), .ref (59), .ref (60), .ref (61), .ref (62), .ref (63), .ref (64), .ref (65)]) fl_md_84 md_g42 (Nat.le_of_ble_eq_true rfl) (fun _ => rfl) (fun _ => rfl) rfl ?_
  rw [md_u42 (ld := ld)]
  show q_Ev l G m_md_count 3 64 0 0 5 [some (.ref (42)), some (.int (w))] [] (md_put h (((nI (0)), ld, (ep), (tm)), ((L.1), (L.2.1), (L.2.2.1), (L.2.2.2)), ((S.1), (S.2.1), (S.2.2.1), (S.2.2.2.1), (S.2.2.2.2)), ((C.1), (C.2.1), (C.2.2.1), (C.2.2.2.1), (C.2.2.2.2)), ((W.1), (W.2.1), (W.2.2.1), (W.2.2.2)), ((T.1), (T.2.1), (T.2.2.1), (T.2.2.2.1), (T.2.2.2.2)))) N _
  refine e_aload_n (pc := 5) d_md_count_5 rfl ?_
  refine e_iload_n (pc := 6) d_md_count_6 rfl ?_
  refine e_bipush (pc := 7) d_md_count_7 (v := (nI (8))) rfl ?_
  refine e_callV (As := [.int (w), .int (nI (8))]) (st := []) (cc2 := 0) (ss2 := 0) (pc := 9) d_md_count_9 rfl cv_md_145 md_g42 rfl (c_md_out htr) rfl (by decide) (by decide) (by omega) (by omega) (Nat.le_of_ble_eq_true rfl) (fun _ _ _ hq => nomatch hq.1) (fun r h2 N2 hq => ?_)
  obtain ⟨hr, e1, e2⟩ := hq
  cases hr
  rw [e1, e2]
  clear e1 e2
  show q_Ev l G m_md_count 3 64 0 0 12 [some (.ref (42)), some (.int (w))] [.int (bI (decide (w < 0 ∨ ¬ w < nI 8)))] (md_put h (((nI (0)), ld, (ep), (tm)), ((L.1), (L.2.1), (L.2.2.1), (L.2.2.2)), ((S.1), (S.2.1), (S.2.2.1), (S.2.2.2.1), (S.2.2.2.2)), ((C.1), (C.2.1), (C.2.2.1), (C.2.2.2.1), (C.2.2.2.2)), ((W.1), (W.2.1), (W.2.2.1), (W.2.2.2)), ((T.1), (T.2.1), (T.2.2.1), (T.2.2.2.1), (T.2.2.2.2)))) N _
  refine e_ifB_eq (pc := 12) (tgt := 21) d_md_count_12 (by decide) (fun co => ?_) (fun co => ?_)
  · have hw := out_f (n := 7) (by decide) co
    have hw1 := hw
    obtain ⟨v, hv, ev⟩ := q_ofL (n := 7) (by decide) hw
    subst ev
    refine e_iload_n (pc := 21) d_md_count_21 rfl ?_
    refine e_if_neN (pc := 22) (tgt := 30) d_md_count_22 (by decide) (by omega) (fun c0 => ?_) (fun c0 => ?_)
    · refine e_iload_n (pc := 30) d_md_count_30 rfl ?_
      refine e_iconst (pc := 31) d_md_count_31 (v := (nI (1))) rfl ?_
      refine e_icmp_neN (pc := 32) (tgt := 40) d_md_count_32 (by decide) (by omega) (by omega) (fun c1 => ?_) (fun c1 => ?_)
      · refine e_iload_n (pc := 40) d_md_count_40 rfl ?_
        refine e_iconst (pc := 41) d_md_count_41 (v := (nI (2))) rfl ?_
        refine e_icmp_neN (pc := 42) (tgt := 50) d_md_count_42 (by decide) (by omega) (by omega) (fun c2 => ?_) (fun c2 => ?_)
        · refine e_iload_n (pc := 50) d_md_count_50 rfl ?_
          refine e_iconst (pc := 51) d_md_count_51 (v := (nI (3))) rfl ?_
          refine e_icmp_neN (pc := 52) (tgt := 68) d_md_count_52 (by decide) (by omega) (by omega) (fun c3 => ?_) (fun c3 => ?_)
          · refine e_aload_n (pc := 68) d_md_count_68 rfl ?_
            refine e_get (pc := 69) d_md_count_69 fl_md_42 md_g42 rfl ?_
            refine e_iload_n (pc := 72) d_md_count_72 rfl ?_
            refine e_iconst (pc := 73) d_md_count_73 (v := (nI (4))) rfl ?_
            refine e_isubN (pc := 74) d_md_count_74 (by omega) ?_
            refine e_zaldN (pc := 75) d_md_count_75 (f := (C.1)) md_g52 (by omega) (by decide) ?_
            refine e_ifB_eq (pc := 76) (tgt := 83) d_md_count_76 (by decide) (fun c4 => ?_) (fun c4 => ?_)
            · refine e_aload_n (pc := 83) d_md_count_83 rfl ?_
              refine e_get (pc := 84) d_md_count_84 fl_md_45 md_g42 rfl ?_
              refine e_iload_n (pc := 87) d_md_count_87 rfl ?_
              refine e_iconst (pc := 88) d_md_count_88 (v := (nI (4))) rfl ?_
              refine e_isubN (pc := 89) d_md_count_89 (by omega) ?_
              refine e_zaldN (pc := 90) d_md_count_90 (f := (C.2.1)) md_g53 (by omega) (by decide) ?_
              refine e_ifB_eq (pc := 91) (tgt := 98) d_md_count_91 (by decide) (fun c5 => ?_) (fun c5 => ?_)
              · refine e_iconst (pc := 98) d_md_count_98 (v := (nI (0))) rfl ?_
                exact e_iret (pc := 99) d_md_count_99 rfl (by rw [hr0]; unfold m_count; rw [if_pos hw1, nT_n (show v < 2 ^ 31 by omega), if_neg c0, if_neg c1, if_neg c2, if_neg c3]; refine ⟨?_, rfl, rfl⟩; show _ = Sum.inl (some (Value.int (nI (if C.1 (v - 4) then 1 else if C.2.1 (v - 4) then 2 else 0)))); rw [show C.1 (v - 4) = false from c4, show C.2.1 (v - 4) = false from c5]; rfl)
              · refine e_iconst (pc := 94) d_md_count_94 (v := (nI (2))) rfl ?_
                refine e_goto (pc := 95) (tgt := 99) d_md_count_95 (by decide) ?_
                exact e_iret (pc := 99) d_md_count_99 rfl (by rw [hr0]; unfold m_count; rw [if_pos hw1, nT_n (show v < 2 ^ 31 by omega), if_neg c0, if_neg c1, if_neg c2, if_neg c3]; refine ⟨?_, rfl, rfl⟩; show _ = Sum.inl (some (Value.int (nI (if C.1 (v - 4) then 1 else if C.2.1 (v - 4) then 2 else 0)))); rw [show C.1 (v - 4) = false from c4, show C.2.1 (v - 4) = true from c5]; rfl)
            · refine e_iconst (pc := 79) d_md_count_79 (v := (nI (1))) rfl ?_
              refine e_goto (pc := 80) (tgt := 99) d_md_count_80 (by decide) ?_
              exact e_iret (pc := 99) d_md_count_99 rfl (by rw [hr0]; unfold m_count; rw [if_pos hw1, nT_n (show v < 2 ^ 31 by omega), if_neg c0, if_neg c1, if_neg c2, if_neg c3]; refine ⟨?_, rfl, rfl⟩; show _ = Sum.inl (some (Value.int (nI (if C.1 (v - 4) then 1 else _)))); rw [show C.1 (v - 4) = true from c4]; rfl)
          · refine e_aload_n (pc := 55) d_md_count_55 rfl ?_
            refine e_callV (As := []) (st := []) (cc2 := 0) (ss2 := 0) (pc := 56) d_md_count_56 rfl cv_md_118 md_g42 rfl (c_md_quorum (M := ((nI 0, ld, ep, tm), L, S, C, W, T)) htr hO.1) rfl (by decide) (by decide) (by omega) (by omega) (Nat.le_of_ble_eq_true rfl) (fun _ _ _ hq => nomatch hq.1) (fun r h2 N2 hq => ?_)
            obtain ⟨hr, e1, e2⟩ := hq
            cases hr
            rw [e1, e2]
            clear e1 e2
            show q_Ev l G m_md_count 3 64 0 0 59 [some (.ref (42)), some (.int (nI (v)))] [.int (bI (m_qr ((fa, ld, ep, tm), L, S, C, W, T)))] (md_put h (((nI (0)), ld, (ep), (tm)), ((L.1), (L.2.1), (L.2.2.1), (L.2.2.2)), ((S.1), (S.2.1), (S.2.2.1), (S.2.2.2.1), (S.2.2.2.2)), ((C.1), (C.2.1), (C.2.2.1), (C.2.2.2.1), (C.2.2.2.2)), ((W.1), (W.2.1), (W.2.2.1), (W.2.2.2)), ((T.1), (T.2.1), (T.2.2.1), (T.2.2.2.1), (T.2.2.2.2)))) N _
            refine e_ifB_eq (pc := 59) (tgt := 66) d_md_count_59 (by decide) (fun c => ?_) (fun c => ?_)
            · refine e_iconst (pc := 66) d_md_count_66 (v := (nI (0))) rfl ?_
              exact e_iret (pc := 67) d_md_count_67 rfl (by rw [hr0]; unfold m_count; rw [if_pos hw1, nT_n (show v < 2 ^ 31 by omega), if_neg c0, if_neg c1, if_neg c2, if_pos c3]; refine ⟨?_, rfl, rfl⟩; show _ = Sum.inl (some (Value.int (bI (m_qr ((fa, ld, ep, tm), L, S, C, W, T))))); rw [c]; rfl)
            · refine e_iconst (pc := 62) d_md_count_62 (v := (nI (1))) rfl ?_
              refine e_goto (pc := 63) (tgt := 67) d_md_count_63 (by decide) ?_
              exact e_iret (pc := 67) d_md_count_67 rfl (by rw [hr0]; unfold m_count; rw [if_pos hw1, nT_n (show v < 2 ^ 31 by omega), if_neg c0, if_neg c1, if_neg c2, if_pos c3]; refine ⟨?_, rfl, rfl⟩; show _ = Sum.inl (some (Value.int (bI (m_qr ((fa, ld, ep, tm), L, S, C, W, T))))); rw [c]; rfl)
        · refine e_aload_n (pc := 45) d_md_count_45 rfl ?_
          refine e_get (pc := 46) d_md_count_46 fl_md_38 md_g42 rfl ?_
          exact e_iret (pc := 49) d_md_count_49 rfl (by rw [hr0]; unfold m_count; rw [if_pos hw1, nT_n (show v < 2 ^ 31 by omega), if_neg c0, if_neg c1, if_pos c2]; exact ⟨rfl, rfl, rfl⟩)
      · refine e_aload_n (pc := 35) d_md_count_35 rfl ?_
        refine e_get (pc := 36) d_md_count_36 fl_md_105 md_g42 rfl ?_
        exact e_iret (pc := 39) d_md_count_39 rfl (by rw [hr0]; unfold m_count; rw [if_pos hw1, nT_n (show v < 2 ^ 31 by omega), if_neg c0, if_pos c1]; exact ⟨rfl, rfl, rfl⟩)
    · refine e_aload_n (pc := 25) d_md_count_25 rfl ?_
      refine e_get (pc := 26) d_md_count_26 fl_md_152 md_g42 rfl ?_
      exact e_iret (pc := 29) d_md_count_29 rfl (by rw [hr0]; unfold m_count; rw [if_pos hw1, nT_n (show v < 2 ^ 31 by omega), if_pos c0]; exact ⟨rfl, rfl, rfl⟩)
  · have hw := out_t (n := 7) (by decide) co
    refine e_aload_n (pc := 15) d_md_count_15 rfl ?_
    refine e_iconst (pc := 16) d_md_count_16 (v := (nI (1))) rfl ?_
    refine e_callV (As := [.int (nI (1))]) (st := []) (cc2 := 0) (ss2 := 0) (pc := 17) d_md_count_17 rfl cv_md_149 md_g42 rfl (c_md_fail htr) rfl (by decide) (by decide) (by omega) (by omega) (Nat.le_of_ble_eq_true rfl) (fun _ _ _ hq => nomatch hq.1) (fun r h2 N2 hq => ?_)
    obtain ⟨hr, e1, e2⟩ := hq
    cases hr
    rw [e1, e2]
    clear e1 e2
    show q_Ev l G m_md_count 3 64 0 0 20 [some (.ref (42)), some (.int (w))] [.int (nI (0))] _ N _
    exact e_iret (pc := 20) d_md_count_20 rfl (by rw [hr0]; unfold m_count; rw [if_neg hw]; exact ⟨rfl, rfl, rfl⟩)
set_option maxHeartbeats 400000 in
set_option maxRecDepth 100000 in
theorem c_md_restart {l : Launch} {G : q_G} (htr : l.stackTraces = false) {h : q_H} {N : Nat} {fa : Int32} {ld : Option Nat} {ep : Nat} {tm : Int32} {L : mL} {S : mS} {C : mC} {W : mW} {T : mT} {i : Int32} {n : Nat} (hn : n ≤ 72) (hO : mOK n ((fa, ld, ep, tm), L, S, C, W, T)) : q_Met l G m_md_restart 7 165 0 0 [.ref (42), .int (i)] (md_put h ((fa, ld, ep, tm), L, S, C, W, T)) N (q_To (some (.int (m_restart i ((fa, ld, ep, tm), L, S, C, W, T)).1)) (md_put h (m_restart i ((fa, ld, ep, tm), L, S, C, W, T)).2) N) := by
  obtain ⟨r0, hr0⟩ : ∃ r, r = m_restart i ((fa, ld, ep, tm), L, S, C, W, T) := ⟨_, rfl⟩
  rw [← hr0]
  refine q_Met.mk htr (by decide +kernel) rfl (List.forall_mem_cons.mpr ⟨rfl, List.forall_mem_cons.mpr ⟨rfl, fun _ h => nomatch h⟩⟩) (Nat.le_of_ble_eq_true rfl) ?_
  refine e_aload_n (pc := 0) d_md_restart_0 rfl ?_
  refine e_iconst (pc := 1) d_md_restart_1 (v := (nI (0))) rfl ?_
  refine e_putE (pc := 2) d_md_restart_2 (fs2 := [.int (nI (0)), .ref (43), .ref (44), .ref (45), .ref (46), .ref (47), .ref (48), .ref (49), .ref (50), .ref (51), .int (ldI ld), .int (nI (ep)), .int (tm), .ref (52), .ref (53), .ref (54), .ref (55), .ref (56), .ref (57), .ref (58), .ref (59), .ref (60), .ref (61), .ref (62), .ref (63), .ref (64), .ref (65)]) fl_md_84 md_g42 (Nat.le_of_ble_eq_true rfl) (fun _ => rfl) (fun _ => rfl) rfl ?_
  rw [md_u42 (ld := ld)]
  show q_Ev l G m_md_restart 7 165 0 0 5 [some (.ref (42)), some (.int (i))] [] (md_put h (((nI (0)), ld, (ep), (tm)), ((L.1), (L.2.1), (L.2.2.1), (L.2.2.2)), ((S.1), (S.2.1), (S.2.2.1), (S.2.2.2.1), (S.2.2.2.2)), ((C.1), (C.2.1), (C.2.2.1), (C.2.2.2.1), (C.2.2.2.2)), ((W.1), (W.2.1), (W.2.2.1), (W.2.2.2)), ((T.1), (T.2.1), (T.2.2.1), (T.2.2.2.1), (T.2.2.2.2)))) N _
  refine e_aload_n (pc := 5) d_md_restart_5 rfl ?_
  refine e_iload_n (pc := 6) d_md_restart_6 rfl ?_
  refine e_iconst (pc := 7) d_md_restart_7 (v := (nI (3))) rfl ?_
  refine e_callV (As := [.int (i), .int (nI (3))]) (st := []) (cc2 := 0) (ss2 := 0) (pc := 8) d_md_restart_8 rfl cv_md_145 md_g42 rfl (c_md_out htr) rfl (by decide) (by decide) (by omega) (by omega) (Nat.le_of_ble_eq_true rfl) (fun _ _ _ hq => nomatch hq.1) (fun r h2 N2 hq => ?_)
  obtain ⟨hr, e1, e2⟩ := hq
  cases hr
  rw [e1, e2]
  clear e1 e2
  show q_Ev l G m_md_restart 7 165 0 0 11 [some (.ref (42)), some (.int (i))] [.int (bI (decide (i < 0 ∨ ¬ i < nI 3)))] (md_put h (((nI (0)), ld, (ep), (tm)), ((L.1), (L.2.1), (L.2.2.1), (L.2.2.2)), ((S.1), (S.2.1), (S.2.2.1), (S.2.2.2.1), (S.2.2.2.2)), ((C.1), (C.2.1), (C.2.2.1), (C.2.2.2.1), (C.2.2.2.2)), ((W.1), (W.2.1), (W.2.2.1), (W.2.2.2)), ((T.1), (T.2.1), (T.2.2.1), (T.2.2.2.1), (T.2.2.2.2)))) N _
  refine e_ifB_eq (pc := 11) (tgt := 20) d_md_restart_11 (by decide) (fun co => ?_) (fun co => ?_)
  · have hi := out_f (n := 2) (by decide) co
    have hi1 := hi
    obtain ⟨k, hk, ek⟩ := q_ofL (n := 2) (by decide) hi
    subst ek
    refine e_aload_n (pc := 20) d_md_restart_20 rfl ?_
    refine e_get (pc := 21) d_md_restart_21 fl_md_31 md_g42 rfl ?_
    refine e_iload_n (pc := 24) d_md_restart_24 rfl ?_
    refine e_zaldN (pc := 25) d_md_restart_25 (f := (S.2.2.2.1)) md_g50 (by omega) (by decide) ?_
    refine e_ifB_ne (pc := 26) (tgt := 35) d_md_restart_26 (by decide) (fun c1 => ?_) (fun c1 => ?_)
    · refine e_aload_n (pc := 35) d_md_restart_35 rfl ?_
      refine e_get (pc := 36) d_md_restart_36 fl_md_31 md_g42 rfl ?_
      refine e_iload_n (pc := 39) d_md_restart_39 rfl ?_
      refine e_iconst (pc := 40) d_md_restart_40 (v := (bI (false))) rfl ?_
      refine e_zastN (pc := 41) d_md_restart_41 (f := (S.2.2.2.1)) md_g50 (by omega) (by decide) ?_
      rw [md_u50]
      show q_Ev l G m_md_restart 7 165 0 0 42 [some (.ref (42)), some (.int (nI (k)))] [] (md_put h (((nI (0)), ld, (ep), (tm)), ((L.1), (L.2.1), (L.2.2.1), (L.2.2.2)), ((S.1), (S.2.1), (S.2.2.1), (va_up ((S.2.2.2.1)) (k) (false)), (S.2.2.2.2)), ((C.1), (C.2.1), (C.2.2.1), (C.2.2.2.1), (C.2.2.2.2)), ((W.1), (W.2.1), (W.2.2.1), (W.2.2.2)), ((T.1), (T.2.1), (T.2.2.1), (T.2.2.2.1), (T.2.2.2.2)))) N _
      refine e_aload_n (pc := 42) d_md_restart_42 rfl ?_
      refine e_get (pc := 43) d_md_restart_43 fl_md_105 md_g42 rfl ?_
      refine e_if_lt (pc := 46) (tgt := 53) d_md_restart_46 (by decide) (fun cl => ?_) (fun cl => ?_)
      · have hl := (ldI_lt0 hO.1).mp cl
        change ld = none at hl
        subst hl
        show q_Ev l G m_md_restart 7 165 0 0 53 [some (.ref (42)), some (.int (nI (k)))] [] (md_put h (((nI (0)), none, ep, tm), ((L.1), (L.2.1), (L.2.2.1), (L.2.2.2)), ((S.1), (S.2.1), (S.2.2.1), (va_up S.2.2.2.1 k false), (S.2.2.2.2)), ((C.1), (C.2.1), (C.2.2.1), (C.2.2.2.1), (C.2.2.2.2)), ((W.1), (W.2.1), (W.2.2.1), (W.2.2.2)), ((T.1), (T.2.1), (T.2.2.1), (T.2.2.2.1), (T.2.2.2.2)))) N _
        obtain ⟨MX, hMX⟩ : ∃ M, M = ((nI 0, none, ep, tm), L, (S.1, S.2.1, S.2.2.1, va_up S.2.2.2.1 k false, S.2.2.2.2), C, W, T) := ⟨_, rfl⟩
        refine q_Ev.hp (h1 := md_put h MX) (show md_put h MX = md_put h (((nI 0, none, ep, tm), L, (S.1, S.2.1, S.2.2.1, va_up S.2.2.2.1 k false, S.2.2.2.2), C, W, T)) from congrArg _ hMX) ?_
        have hOX : mOK n MX := by rw [hMX]; exact ⟨hO.1, hO.2.1, hO.2.2.1, hO.2.2.2⟩
        show q_Ev l G m_md_restart 7 165 0 0 53 [some (.ref (42)), some (.int (nI (k)))] [] (md_put h MX) N _
        have eX : m_fa (nI 0) (spM (m_dn k false ((fa, none, ep, tm), L, S, C, W, T))) = MX := by rw [hMX]; rfl
        refine e_aload_n (pc := 53) d_md_restart_53 rfl ?_
        refine e_aload_n (pc := 54) d_md_restart_54 rfl ?_
        refine e_get (pc := 55) d_md_restart_55 fl_md_25 md_g42 rfl ?_
        refine e_iload_n (pc := 58) d_md_restart_58 rfl ?_
        refine e_naldN (pc := 59) d_md_restart_59 (f := (MX.2.2.1.2.1)) md_g48 (by omega) (by decide) ?_
        refine e_callV (As := [.int (nI (((MX.2.2.1.2.1)) (k)))]) (st := []) (cc2 := 0) (ss2 := 0) (pc := 60) d_md_restart_60 rfl cv_md_155 md_g42 rfl (c_md_end (A := MX.1) (L := MX.2.1) (S := MX.2.2.1) (C := MX.2.2.2.1) (W := MX.2.2.2.2.1) (T := MX.2.2.2.2.2) htr (show n ≤ 76 by omega) hOX) rfl (by decide) (by decide) (by omega) (by omega) (Nat.le_of_ble_eq_true rfl) (fun _ _ _ hq => nomatch hq.1) (fun r h2 N2 hq => ?_)
        obtain ⟨hr, e1, e2⟩ := hq
        cases hr
        rw [e1, e2]
        clear e1 e2
        show q_Ev l G m_md_restart 7 165 0 0 63 [some (.ref (42)), some (.int (nI (k)))] [.int (nI (MX.2.2.1.2.1 k))] _ N _
        exact e_iret (pc := 63) d_md_restart_63 rfl (by rw [hr0]; unfold m_restart; rw [if_pos hi1, nT_n (by omega), if_pos c1]; unfold m_E; rw [eX]; exact ⟨by rw [← eX]; rfl, rfl, rfl⟩)
      · obtain ⟨r, hl⟩ : ∃ r, ld = some r := by cases hx : ld with | none => exact absurd (show ldI ld < 0 by rw [hx]; decide) cl | some r => exact ⟨r, rfl⟩
        subst hl
        have hr := hO.1 r rfl
        show q_Ev l G m_md_restart 7 165 0 0 49 [some (.ref (42)), some (.int (nI (k)))] [] (md_put h (((nI (0)), (some r), ep, tm), ((L.1), (L.2.1), (L.2.2.1), (L.2.2.2)), ((S.1), (S.2.1), (S.2.2.1), (va_up S.2.2.2.1 k false), (S.2.2.2.2)), ((C.1), (C.2.1), (C.2.2.1), (C.2.2.2.1), (C.2.2.2.2)), ((W.1), (W.2.1), (W.2.2.1), (W.2.2.2)), ((T.1), (T.2.1), (T.2.2.1), (T.2.2.2.1), (T.2.2.2.2)))) N _
        refine e_aload_n (pc := 49) d_md_restart_49 rfl ?_
        refine e_callV (As := []) (st := []) (cc2 := 0) (ss2 := 0) (pc := 50) d_md_restart_50 rfl cv_md_125 md_g42 rfl (c_md_spread (n := n) htr (show n ≤ 80 by omega) hr hO.2.1 hO.2.2.1 hO.2.2.2) rfl (by decide) (by decide) (by omega) (by omega) (Nat.le_of_ble_eq_true rfl) (fun _ _ _ hq => nomatch hq.1) (fun r h2 N2 hq => ?_)
        obtain ⟨hr, e1, e2⟩ := hq
        cases hr
        rw [e1, e2]
        clear e1 e2
        show q_Ev l G m_md_restart 7 165 0 0 53 [some (.ref (42)), some (.int (nI (k)))] [] _ N _
        obtain ⟨MX, hMX⟩ : ∃ M, M = spM ((nI 0, some r, ep, tm), L, (S.1, S.2.1, S.2.2.1, va_up S.2.2.2.1 k false, S.2.2.2.2), C, W, T) := ⟨_, rfl⟩
        refine q_Ev.hp (h1 := md_put h MX) (show md_put h MX = md_put h (spM ((nI 0, some r, ep, tm), L, (S.1, S.2.1, S.2.2.1, va_up S.2.2.2.1 k false, S.2.2.2.2), C, W, T)) from congrArg _ hMX) ?_
        have hOX : mOK n MX := by rw [hMX]; exact (spM_ok (M := ((nI 0, some r, ep, tm), L, (S.1, S.2.1, S.2.2.1, va_up S.2.2.2.1 k false, S.2.2.2.2), C, W, T)) ⟨hO.1, hO.2.1, hO.2.2.1, hO.2.2.2⟩ (by omega)).1
        show q_Ev l G m_md_restart 7 165 0 0 53 [some (.ref (42)), some (.int (nI (k)))] [] (md_put h MX) N _
        have eX : m_fa (nI 0) (spM (m_dn k false ((fa, some r, ep, tm), L, S, C, W, T))) = MX := by rw [hMX]; rfl
        refine e_aload_n (pc := 53) d_md_restart_53 rfl ?_
        refine e_aload_n (pc := 54) d_md_restart_54 rfl ?_
        refine e_get (pc := 55) d_md_restart_55 fl_md_25 md_g42 rfl ?_
        refine e_iload_n (pc := 58) d_md_restart_58 rfl ?_
        refine e_naldN (pc := 59) d_md_restart_59 (f := (MX.2.2.1.2.1)) md_g48 (by omega) (by decide) ?_
        refine e_callV (As := [.int (nI (((MX.2.2.1.2.1)) (k)))]) (st := []) (cc2 := 0) (ss2 := 0) (pc := 60) d_md_restart_60 rfl cv_md_155 md_g42 rfl (c_md_end (A := MX.1) (L := MX.2.1) (S := MX.2.2.1) (C := MX.2.2.2.1) (W := MX.2.2.2.2.1) (T := MX.2.2.2.2.2) htr (show n ≤ 76 by omega) hOX) rfl (by decide) (by decide) (by omega) (by omega) (Nat.le_of_ble_eq_true rfl) (fun _ _ _ hq => nomatch hq.1) (fun r h2 N2 hq => ?_)
        obtain ⟨hr, e1, e2⟩ := hq
        cases hr
        rw [e1, e2]
        clear e1 e2
        show q_Ev l G m_md_restart 7 165 0 0 63 [some (.ref (42)), some (.int (nI (k)))] [.int (nI (MX.2.2.1.2.1 k))] _ N _
        exact e_iret (pc := 63) d_md_restart_63 rfl (by rw [hr0]; unfold m_restart; rw [if_pos hi1, nT_n (by omega), if_pos c1]; unfold m_E; rw [eX]; exact ⟨by rw [← eX]; rfl, rfl, rfl⟩)
    · refine e_aload_n (pc := 29) d_md_restart_29 rfl ?_
      refine e_iconst (pc := 30) d_md_restart_30 (v := (nI (2))) rfl ?_
      refine e_callV (As := [.int (nI (2))]) (st := []) (cc2 := 0) (ss2 := 0) (pc := 31) d_md_restart_31 rfl cv_md_149 md_g42 rfl (c_md_fail htr) rfl (by decide) (by decide) (by omega) (by omega) (Nat.le_of_ble_eq_true rfl) (fun _ _ _ hq => nomatch hq.1) (fun r h2 N2 hq => ?_)
      obtain ⟨hr, e1, e2⟩ := hq
      cases hr
      rw [e1, e2]
      clear e1 e2
      show q_Ev l G m_md_restart 7 165 0 0 34 [some (.ref (42)), some (.int (nI (k)))] [.int (nI (0))] _ N _
      exact e_iret (pc := 34) d_md_restart_34 rfl (by rw [hr0]; unfold m_restart; rw [if_pos hi1, nT_n (by omega), if_neg (fun z => absurd (c1.symm.trans z) (by decide))]; exact ⟨rfl, rfl, rfl⟩)
  · have hi := out_t (n := 2) (by decide) co
    refine e_aload_n (pc := 14) d_md_restart_14 rfl ?_
    refine e_iconst (pc := 15) d_md_restart_15 (v := (nI (1))) rfl ?_
    refine e_callV (As := [.int (nI (1))]) (st := []) (cc2 := 0) (ss2 := 0) (pc := 16) d_md_restart_16 rfl cv_md_149 md_g42 rfl (c_md_fail htr) rfl (by decide) (by decide) (by omega) (by omega) (Nat.le_of_ble_eq_true rfl) (fun _ _ _ hq => nomatch hq.1) (fun r h2 N2 hq => ?_)
    obtain ⟨hr, e1, e2⟩ := hq
    cases hr
    rw [e1, e2]
    clear e1 e2
    show q_Ev l G m_md_restart 7 165 0 0 19 [some (.ref (42)), some (.int (i))] [.int (nI (0))] _ N _
    exact e_iret (pc := 19) d_md_restart_19 rfl (by rw [hr0]; unfold m_restart; rw [if_neg hi]; exact ⟨rfl, rfl, rfl⟩)
set_option maxHeartbeats 400000 in
set_option maxRecDepth 100000 in
theorem c_md_alone {l : Launch} {G : q_G} (htr : l.stackTraces = false) {h : q_H} {N : Nat} {fa : Int32} {ld : Option Nat} {ep : Nat} {tm : Int32} {L : mL} {S : mS} {C : mC} {W : mW} {T : mT} {i : Int32} {b : Bool} {n : Nat} (hn : n ≤ 72) (hO : mOK n ((fa, ld, ep, tm), L, S, C, W, T)) : q_Met l G m_md_alone 7 165 0 0 [.ref (42), .int (i), .int (bI (b))] (md_put h ((fa, ld, ep, tm), L, S, C, W, T)) N (q_To (some (.int (m_alone i b ((fa, ld, ep, tm), L, S, C, W, T)).1)) (md_put h (m_alone i b ((fa, ld, ep, tm), L, S, C, W, T)).2) N) := by
  obtain ⟨r0, hr0⟩ : ∃ r, r = m_alone i b ((fa, ld, ep, tm), L, S, C, W, T) := ⟨_, rfl⟩
  rw [← hr0]
  refine q_Met.mk htr (by decide +kernel) rfl (List.forall_mem_cons.mpr ⟨rfl, List.forall_mem_cons.mpr ⟨rfl, List.forall_mem_cons.mpr ⟨rfl, fun _ h => nomatch h⟩⟩⟩) (Nat.le_of_ble_eq_true rfl) ?_
  refine e_aload_n (pc := 0) d_md_alone_0 rfl ?_
  refine e_iconst (pc := 1) d_md_alone_1 (v := (nI (0))) rfl ?_
  refine e_putE (pc := 2) d_md_alone_2 (fs2 := [.int (nI (0)), .ref (43), .ref (44), .ref (45), .ref (46), .ref (47), .ref (48), .ref (49), .ref (50), .ref (51), .int (ldI ld), .int (nI (ep)), .int (tm), .ref (52), .ref (53), .ref (54), .ref (55), .ref (56), .ref (57), .ref (58), .ref (59), .ref (60), .ref (61), .ref (62), .ref (63), .ref (64), .ref (65)]) fl_md_84 md_g42 (Nat.le_of_ble_eq_true rfl) (fun _ => rfl) (fun _ => rfl) rfl ?_
  rw [md_u42 (ld := ld)]
  show q_Ev l G m_md_alone 7 165 0 0 5 [some (.ref (42)), some (.int (i)), some (.int (bI (b))), none] [] (md_put h (((nI (0)), ld, (ep), (tm)), ((L.1), (L.2.1), (L.2.2.1), (L.2.2.2)), ((S.1), (S.2.1), (S.2.2.1), (S.2.2.2.1), (S.2.2.2.2)), ((C.1), (C.2.1), (C.2.2.1), (C.2.2.2.1), (C.2.2.2.2)), ((W.1), (W.2.1), (W.2.2.1), (W.2.2.2)), ((T.1), (T.2.1), (T.2.2.1), (T.2.2.2.1), (T.2.2.2.2)))) N _
  refine e_aload_n (pc := 5) d_md_alone_5 rfl ?_
  refine e_iload_n (pc := 6) d_md_alone_6 rfl ?_
  refine e_iconst (pc := 7) d_md_alone_7 (v := (nI (3))) rfl ?_
  refine e_callV (As := [.int (i), .int (nI (3))]) (st := []) (cc2 := 0) (ss2 := 0) (pc := 8) d_md_alone_8 rfl cv_md_145 md_g42 rfl (c_md_out htr) rfl (by decide) (by decide) (by omega) (by omega) (Nat.le_of_ble_eq_true rfl) (fun _ _ _ hq => nomatch hq.1) (fun r h2 N2 hq => ?_)
  obtain ⟨hr, e1, e2⟩ := hq
  cases hr
  rw [e1, e2]
  clear e1 e2
  show q_Ev l G m_md_alone 7 165 0 0 11 [some (.ref (42)), some (.int (i)), some (.int (bI (b))), none] [.int (bI (decide (i < 0 ∨ ¬ i < nI 3)))] (md_put h (((nI (0)), ld, (ep), (tm)), ((L.1), (L.2.1), (L.2.2.1), (L.2.2.2)), ((S.1), (S.2.1), (S.2.2.1), (S.2.2.2.1), (S.2.2.2.2)), ((C.1), (C.2.1), (C.2.2.1), (C.2.2.2.1), (C.2.2.2.2)), ((W.1), (W.2.1), (W.2.2.1), (W.2.2.2)), ((T.1), (T.2.1), (T.2.2.1), (T.2.2.2.1), (T.2.2.2.2)))) N _
  refine e_ifB_eq (pc := 11) (tgt := 20) d_md_alone_11 (by decide) (fun co => ?_) (fun co => ?_)
  · have hi := out_f (n := 2) (by decide) co
    have hi1 := hi
    obtain ⟨k, hk, ek⟩ := q_ofL (n := 2) (by decide) hi
    subst ek
    refine e_aload_n (pc := 20) d_md_alone_20 rfl ?_
    refine e_get (pc := 21) d_md_alone_21 fl_md_35 md_g42 rfl ?_
    refine e_iload_n (pc := 24) d_md_alone_24 rfl ?_
    refine e_zaldN (pc := 25) d_md_alone_25 (f := (S.2.2.2.2)) md_g51 (by omega) (by decide) ?_
    refine e_iload_n (pc := 26) d_md_alone_26 rfl ?_
    refine e_icmp_ne (pc := 27) (tgt := 34) d_md_alone_27 (by decide) (fun c1 => ?_) (fun c1 => ?_)
    · refine e_iconst (pc := 34) d_md_alone_34 (v := (nI (1))) rfl ?_
      refine e_istore_n (pc := 35) d_md_alone_35 (by decide) ?_
      refine e_aload_n (pc := 36) d_md_alone_36 rfl ?_
      refine e_get (pc := 37) d_md_alone_37 fl_md_35 md_g42 rfl ?_
      refine e_iload_n (pc := 40) d_md_alone_40 rfl ?_
      refine e_iload_n (pc := 41) d_md_alone_41 rfl ?_
      refine e_zastN (pc := 42) d_md_alone_42 (f := (S.2.2.2.2)) md_g51 (by omega) (by decide) ?_
      rw [md_u51]
      show q_Ev l G m_md_alone 7 165 0 0 43 [some (.ref (42)), some (.int (nI (k))), some (.int (bI (b))), some (.int (nI (1)))] [] (md_put h (((nI (0)), ld, (ep), (tm)), ((L.1), (L.2.1), (L.2.2.1), (L.2.2.2)), ((S.1), (S.2.1), (S.2.2.1), (S.2.2.2.1), (va_up ((S.2.2.2.2)) (k) (b))), ((C.1), (C.2.1), (C.2.2.1), (C.2.2.2.1), (C.2.2.2.2)), ((W.1), (W.2.1), (W.2.2.1), (W.2.2.2)), ((T.1), (T.2.1), (T.2.2.1), (T.2.2.2.1), (T.2.2.2.2)))) N _
      refine e_aload_n (pc := 43) d_md_alone_43 rfl ?_
      refine e_get (pc := 44) d_md_alone_44 fl_md_105 md_g42 rfl ?_
      refine e_if_lt (pc := 47) (tgt := 54) d_md_alone_47 (by decide) (fun cl => ?_) (fun cl => ?_)
      · have hl := (ldI_lt0 hO.1).mp cl
        change ld = none at hl
        subst hl
        show q_Ev l G m_md_alone 7 165 0 0 54 [some (.ref (42)), some (.int (nI (k))), some (.int (bI (b))), some (.int (nI (1)))] [] (md_put h (((nI (0)), none, ep, tm), ((L.1), (L.2.1), (L.2.2.1), (L.2.2.2)), ((S.1), (S.2.1), (S.2.2.1), (S.2.2.2.1), (va_up S.2.2.2.2 k b)), ((C.1), (C.2.1), (C.2.2.1), (C.2.2.2.1), (C.2.2.2.2)), ((W.1), (W.2.1), (W.2.2.1), (W.2.2.2)), ((T.1), (T.2.1), (T.2.2.1), (T.2.2.2.1), (T.2.2.2.2)))) N _
        obtain ⟨MX, hMX⟩ : ∃ M, M = ((nI 0, none, ep, tm), L, (S.1, S.2.1, S.2.2.1, S.2.2.2.1, va_up S.2.2.2.2 k b), C, W, T) := ⟨_, rfl⟩
        refine q_Ev.hp (h1 := md_put h MX) (show md_put h MX = md_put h (((nI 0, none, ep, tm), L, (S.1, S.2.1, S.2.2.1, S.2.2.2.1, va_up S.2.2.2.2 k b), C, W, T)) from congrArg _ hMX) ?_
        have hOX : mOK n MX := by rw [hMX]; exact ⟨hO.1, hO.2.1, hO.2.2.1, hO.2.2.2⟩
        show q_Ev l G m_md_alone 7 165 0 0 54 [some (.ref (42)), some (.int (nI (k))), some (.int (bI (b))), some (.int (nI (1)))] [] (md_put h MX) N _
        have eX : m_fa (nI 0) (spM (m_ct k b ((fa, none, ep, tm), L, S, C, W, T))) = MX := by rw [hMX]; rfl
        refine e_aload_n (pc := 54) d_md_alone_54 rfl ?_
        refine e_iload_n (pc := 55) d_md_alone_55 rfl ?_
        refine e_callV (As := [.int (nI (1))]) (st := []) (cc2 := 0) (ss2 := 0) (pc := 56) d_md_alone_56 rfl cv_md_155 md_g42 rfl (c_md_end (A := MX.1) (L := MX.2.1) (S := MX.2.2.1) (C := MX.2.2.2.1) (W := MX.2.2.2.2.1) (T := MX.2.2.2.2.2) htr (show n ≤ 76 by omega) hOX) rfl (by decide) (by decide) (by omega) (by omega) (Nat.le_of_ble_eq_true rfl) (fun _ _ _ hq => nomatch hq.1) (fun r h2 N2 hq => ?_)
        obtain ⟨hr, e1, e2⟩ := hq
        cases hr
        rw [e1, e2]
        clear e1 e2
        show q_Ev l G m_md_alone 7 165 0 0 59 [some (.ref (42)), some (.int (nI (k))), some (.int (bI (b))), some (.int (nI (1)))] [.int (nI (1))] _ N _
        exact e_iret (pc := 59) d_md_alone_59 rfl (by rw [hr0]; unfold m_alone; rw [if_pos hi1, nT_n (by omega), if_neg (fun z => c1 (bI_inj2.mpr z))]; unfold m_E; rw [eX]; exact ⟨rfl, rfl, rfl⟩)
      · obtain ⟨r, hl⟩ : ∃ r, ld = some r := by cases hx : ld with | none => exact absurd (show ldI ld < 0 by rw [hx]; decide) cl | some r => exact ⟨r, rfl⟩
        subst hl
        have hr := hO.1 r rfl
        show q_Ev l G m_md_alone 7 165 0 0 50 [some (.ref (42)), some (.int (nI (k))), some (.int (bI (b))), some (.int (nI (1)))] [] (md_put h (((nI (0)), (some r), ep, tm), ((L.1), (L.2.1), (L.2.2.1), (L.2.2.2)), ((S.1), (S.2.1), (S.2.2.1), (S.2.2.2.1), (va_up S.2.2.2.2 k b)), ((C.1), (C.2.1), (C.2.2.1), (C.2.2.2.1), (C.2.2.2.2)), ((W.1), (W.2.1), (W.2.2.1), (W.2.2.2)), ((T.1), (T.2.1), (T.2.2.1), (T.2.2.2.1), (T.2.2.2.2)))) N _
        refine e_aload_n (pc := 50) d_md_alone_50 rfl ?_
        refine e_callV (As := []) (st := []) (cc2 := 0) (ss2 := 0) (pc := 51) d_md_alone_51 rfl cv_md_125 md_g42 rfl (c_md_spread (n := n) htr (show n ≤ 80 by omega) hr hO.2.1 hO.2.2.1 hO.2.2.2) rfl (by decide) (by decide) (by omega) (by omega) (Nat.le_of_ble_eq_true rfl) (fun _ _ _ hq => nomatch hq.1) (fun r h2 N2 hq => ?_)
        obtain ⟨hr, e1, e2⟩ := hq
        cases hr
        rw [e1, e2]
        clear e1 e2
        show q_Ev l G m_md_alone 7 165 0 0 54 [some (.ref (42)), some (.int (nI (k))), some (.int (bI (b))), some (.int (nI (1)))] [] _ N _
        obtain ⟨MX, hMX⟩ : ∃ M, M = spM ((nI 0, some r, ep, tm), L, (S.1, S.2.1, S.2.2.1, S.2.2.2.1, va_up S.2.2.2.2 k b), C, W, T) := ⟨_, rfl⟩
        refine q_Ev.hp (h1 := md_put h MX) (show md_put h MX = md_put h (spM ((nI 0, some r, ep, tm), L, (S.1, S.2.1, S.2.2.1, S.2.2.2.1, va_up S.2.2.2.2 k b), C, W, T)) from congrArg _ hMX) ?_
        have hOX : mOK n MX := by rw [hMX]; exact (spM_ok (M := ((nI 0, some r, ep, tm), L, (S.1, S.2.1, S.2.2.1, S.2.2.2.1, va_up S.2.2.2.2 k b), C, W, T)) ⟨hO.1, hO.2.1, hO.2.2.1, hO.2.2.2⟩ (by omega)).1
        show q_Ev l G m_md_alone 7 165 0 0 54 [some (.ref (42)), some (.int (nI (k))), some (.int (bI (b))), some (.int (nI (1)))] [] (md_put h MX) N _
        have eX : m_fa (nI 0) (spM (m_ct k b ((fa, some r, ep, tm), L, S, C, W, T))) = MX := by rw [hMX]; rfl
        refine e_aload_n (pc := 54) d_md_alone_54 rfl ?_
        refine e_iload_n (pc := 55) d_md_alone_55 rfl ?_
        refine e_callV (As := [.int (nI (1))]) (st := []) (cc2 := 0) (ss2 := 0) (pc := 56) d_md_alone_56 rfl cv_md_155 md_g42 rfl (c_md_end (A := MX.1) (L := MX.2.1) (S := MX.2.2.1) (C := MX.2.2.2.1) (W := MX.2.2.2.2.1) (T := MX.2.2.2.2.2) htr (show n ≤ 76 by omega) hOX) rfl (by decide) (by decide) (by omega) (by omega) (Nat.le_of_ble_eq_true rfl) (fun _ _ _ hq => nomatch hq.1) (fun r h2 N2 hq => ?_)
        obtain ⟨hr, e1, e2⟩ := hq
        cases hr
        rw [e1, e2]
        clear e1 e2
        show q_Ev l G m_md_alone 7 165 0 0 59 [some (.ref (42)), some (.int (nI (k))), some (.int (bI (b))), some (.int (nI (1)))] [.int (nI (1))] _ N _
        exact e_iret (pc := 59) d_md_alone_59 rfl (by rw [hr0]; unfold m_alone; rw [if_pos hi1, nT_n (by omega), if_neg (fun z => c1 (bI_inj2.mpr z))]; unfold m_E; rw [eX]; exact ⟨rfl, rfl, rfl⟩)
    · refine e_iconst (pc := 30) d_md_alone_30 (v := (nI (0))) rfl ?_
      refine e_goto (pc := 31) (tgt := 35) d_md_alone_31 (by decide) ?_
      refine e_istore_n (pc := 35) d_md_alone_35 (by decide) ?_
      refine e_aload_n (pc := 36) d_md_alone_36 rfl ?_
      refine e_get (pc := 37) d_md_alone_37 fl_md_35 md_g42 rfl ?_
      refine e_iload_n (pc := 40) d_md_alone_40 rfl ?_
      refine e_iload_n (pc := 41) d_md_alone_41 rfl ?_
      refine e_zastN (pc := 42) d_md_alone_42 (f := (S.2.2.2.2)) md_g51 (by omega) (by decide) ?_
      rw [md_u51]
      show q_Ev l G m_md_alone 7 165 0 0 43 [some (.ref (42)), some (.int (nI (k))), some (.int (bI (b))), some (.int (nI (0)))] [] (md_put h (((nI (0)), ld, (ep), (tm)), ((L.1), (L.2.1), (L.2.2.1), (L.2.2.2)), ((S.1), (S.2.1), (S.2.2.1), (S.2.2.2.1), (va_up ((S.2.2.2.2)) (k) (b))), ((C.1), (C.2.1), (C.2.2.1), (C.2.2.2.1), (C.2.2.2.2)), ((W.1), (W.2.1), (W.2.2.1), (W.2.2.2)), ((T.1), (T.2.1), (T.2.2.1), (T.2.2.2.1), (T.2.2.2.2)))) N _
      refine e_aload_n (pc := 43) d_md_alone_43 rfl ?_
      refine e_get (pc := 44) d_md_alone_44 fl_md_105 md_g42 rfl ?_
      refine e_if_lt (pc := 47) (tgt := 54) d_md_alone_47 (by decide) (fun cl => ?_) (fun cl => ?_)
      · have hl := (ldI_lt0 hO.1).mp cl
        change ld = none at hl
        subst hl
        show q_Ev l G m_md_alone 7 165 0 0 54 [some (.ref (42)), some (.int (nI (k))), some (.int (bI (b))), some (.int (nI (0)))] [] (md_put h (((nI (0)), none, ep, tm), ((L.1), (L.2.1), (L.2.2.1), (L.2.2.2)), ((S.1), (S.2.1), (S.2.2.1), (S.2.2.2.1), (va_up S.2.2.2.2 k b)), ((C.1), (C.2.1), (C.2.2.1), (C.2.2.2.1), (C.2.2.2.2)), ((W.1), (W.2.1), (W.2.2.1), (W.2.2.2)), ((T.1), (T.2.1), (T.2.2.1), (T.2.2.2.1), (T.2.2.2.2)))) N _
        obtain ⟨MX, hMX⟩ : ∃ M, M = ((nI 0, none, ep, tm), L, (S.1, S.2.1, S.2.2.1, S.2.2.2.1, va_up S.2.2.2.2 k b), C, W, T) := ⟨_, rfl⟩
        refine q_Ev.hp (h1 := md_put h MX) (show md_put h MX = md_put h (((nI 0, none, ep, tm), L, (S.1, S.2.1, S.2.2.1, S.2.2.2.1, va_up S.2.2.2.2 k b), C, W, T)) from congrArg _ hMX) ?_
        have hOX : mOK n MX := by rw [hMX]; exact ⟨hO.1, hO.2.1, hO.2.2.1, hO.2.2.2⟩
        show q_Ev l G m_md_alone 7 165 0 0 54 [some (.ref (42)), some (.int (nI (k))), some (.int (bI (b))), some (.int (nI (0)))] [] (md_put h MX) N _
        have eX : m_fa (nI 0) (spM (m_ct k b ((fa, none, ep, tm), L, S, C, W, T))) = MX := by rw [hMX]; rfl
        refine e_aload_n (pc := 54) d_md_alone_54 rfl ?_
        refine e_iload_n (pc := 55) d_md_alone_55 rfl ?_
        refine e_callV (As := [.int (nI (0))]) (st := []) (cc2 := 0) (ss2 := 0) (pc := 56) d_md_alone_56 rfl cv_md_155 md_g42 rfl (c_md_end (A := MX.1) (L := MX.2.1) (S := MX.2.2.1) (C := MX.2.2.2.1) (W := MX.2.2.2.2.1) (T := MX.2.2.2.2.2) htr (show n ≤ 76 by omega) hOX) rfl (by decide) (by decide) (by omega) (by omega) (Nat.le_of_ble_eq_true rfl) (fun _ _ _ hq => nomatch hq.1) (fun r h2 N2 hq => ?_)
        obtain ⟨hr, e1, e2⟩ := hq
        cases hr
        rw [e1, e2]
        clear e1 e2
        show q_Ev l G m_md_alone 7 165 0 0 59 [some (.ref (42)), some (.int (nI (k))), some (.int (bI (b))), some (.int (nI (0)))] [.int (nI (0))] _ N _
        exact e_iret (pc := 59) d_md_alone_59 rfl (by rw [hr0]; unfold m_alone; rw [if_pos hi1, nT_n (by omega), if_pos (bI_inj2.mp c1)]; unfold m_E; rw [eX]; exact ⟨rfl, rfl, rfl⟩)
      · obtain ⟨r, hl⟩ : ∃ r, ld = some r := by cases hx : ld with | none => exact absurd (show ldI ld < 0 by rw [hx]; decide) cl | some r => exact ⟨r, rfl⟩
        subst hl
        have hr := hO.1 r rfl
        show q_Ev l G m_md_alone 7 165 0 0 50 [some (.ref (42)), some (.int (nI (k))), some (.int (bI (b))), some (.int (nI (0)))] [] (md_put h (((nI (0)), (some r), ep, tm), ((L.1), (L.2.1), (L.2.2.1), (L.2.2.2)), ((S.1), (S.2.1), (S.2.2.1), (S.2.2.2.1), (va_up S.2.2.2.2 k b)), ((C.1), (C.2.1), (C.2.2.1), (C.2.2.2.1), (C.2.2.2.2)), ((W.1), (W.2.1), (W.2.2.1), (W.2.2.2)), ((T.1), (T.2.1), (T.2.2.1), (T.2.2.2.1), (T.2.2.2.2)))) N _
        refine e_aload_n (pc := 50) d_md_alone_50 rfl ?_
        refine e_callV (As := []) (st := []) (cc2 := 0) (ss2 := 0) (pc := 51) d_md_alone_51 rfl cv_md_125 md_g42 rfl (c_md_spread (n := n) htr (show n ≤ 80 by omega) hr hO.2.1 hO.2.2.1 hO.2.2.2) rfl (by decide) (by decide) (by omega) (by omega) (Nat.le_of_ble_eq_true rfl) (fun _ _ _ hq => nomatch hq.1) (fun r h2 N2 hq => ?_)
        obtain ⟨hr, e1, e2⟩ := hq
        cases hr
        rw [e1, e2]
        clear e1 e2
        show q_Ev l G m_md_alone 7 165 0 0 54 [some (.ref (42)), some (.int (nI (k))), some (.int (bI (b))), some (.int (nI (0)))] [] _ N _
        obtain ⟨MX, hMX⟩ : ∃ M, M = spM ((nI 0, some r, ep, tm), L, (S.1, S.2.1, S.2.2.1, S.2.2.2.1, va_up S.2.2.2.2 k b), C, W, T) := ⟨_, rfl⟩
        refine q_Ev.hp (h1 := md_put h MX) (show md_put h MX = md_put h (spM ((nI 0, some r, ep, tm), L, (S.1, S.2.1, S.2.2.1, S.2.2.2.1, va_up S.2.2.2.2 k b), C, W, T)) from congrArg _ hMX) ?_
        have hOX : mOK n MX := by rw [hMX]; exact (spM_ok (M := ((nI 0, some r, ep, tm), L, (S.1, S.2.1, S.2.2.1, S.2.2.2.1, va_up S.2.2.2.2 k b), C, W, T)) ⟨hO.1, hO.2.1, hO.2.2.1, hO.2.2.2⟩ (by omega)).1
        show q_Ev l G m_md_alone 7 165 0 0 54 [some (.ref (42)), some (.int (nI (k))), some (.int (bI (b))), some (.int (nI (0)))] [] (md_put h MX) N _
        have eX : m_fa (nI 0) (spM (m_ct k b ((fa, some r, ep, tm), L, S, C, W, T))) = MX := by rw [hMX]; rfl
        refine e_aload_n (pc := 54) d_md_alone_54 rfl ?_
        refine e_iload_n (pc := 55) d_md_alone_55 rfl ?_
        refine e_callV (As := [.int (nI (0))]) (st := []) (cc2 := 0) (ss2 := 0) (pc := 56) d_md_alone_56 rfl cv_md_155 md_g42 rfl (c_md_end (A := MX.1) (L := MX.2.1) (S := MX.2.2.1) (C := MX.2.2.2.1) (W := MX.2.2.2.2.1) (T := MX.2.2.2.2.2) htr (show n ≤ 76 by omega) hOX) rfl (by decide) (by decide) (by omega) (by omega) (Nat.le_of_ble_eq_true rfl) (fun _ _ _ hq => nomatch hq.1) (fun r h2 N2 hq => ?_)
        obtain ⟨hr, e1, e2⟩ := hq
        cases hr
        rw [e1, e2]
        clear e1 e2
        show q_Ev l G m_md_alone 7 165 0 0 59 [some (.ref (42)), some (.int (nI (k))), some (.int (bI (b))), some (.int (nI (0)))] [.int (nI (0))] _ N _
        exact e_iret (pc := 59) d_md_alone_59 rfl (by rw [hr0]; unfold m_alone; rw [if_pos hi1, nT_n (by omega), if_pos (bI_inj2.mp c1)]; unfold m_E; rw [eX]; exact ⟨rfl, rfl, rfl⟩)
  · have hi := out_t (n := 2) (by decide) co
    refine e_aload_n (pc := 14) d_md_alone_14 rfl ?_
    refine e_iconst (pc := 15) d_md_alone_15 (v := (nI (1))) rfl ?_
    refine e_callV (As := [.int (nI (1))]) (st := []) (cc2 := 0) (ss2 := 0) (pc := 16) d_md_alone_16 rfl cv_md_149 md_g42 rfl (c_md_fail htr) rfl (by decide) (by decide) (by omega) (by omega) (Nat.le_of_ble_eq_true rfl) (fun _ _ _ hq => nomatch hq.1) (fun r h2 N2 hq => ?_)
    obtain ⟨hr, e1, e2⟩ := hq
    cases hr
    rw [e1, e2]
    clear e1 e2
    show q_Ev l G m_md_alone 7 165 0 0 19 [some (.ref (42)), some (.int (i)), some (.int (bI (b))), none] [.int (nI (0))] _ N _
    exact e_iret (pc := 19) d_md_alone_19 rfl (by rw [hr0]; unfold m_alone; rw [if_neg hi]; exact ⟨rfl, rfl, rfl⟩)
