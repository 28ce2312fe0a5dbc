/-! THE MODEL'S PUBLIC METHODS (2) -/
def m_wd (b : Bool) (j p : Nat) (M : mR) : mR := (M.1, M.2.1, M.2.2.1, M.2.2.2.1, (if b = true then va_up M.2.2.2.2.1.1 (259 * j + p) true else M.2.2.2.2.1.1, M.2.2.2.2.1.2), M.2.2.2.2.2)
def m_wc (b : Bool) (j p : Nat) (M : mR) : mR := (M.1, M.2.1, M.2.2.1, M.2.2.2.1, (M.2.2.2.2.1.1, if b = true then va_up M.2.2.2.2.1.2.1 (259 * j + p) true else M.2.2.2.2.1.2.1, M.2.2.2.2.1.2.2), M.2.2.2.2.2)
def m_get (s q : Int32) (b : Bool) (M : mR) : Int32 × mR := if (nI 0 ≤ s ∧ s ≤ nI 3) ∧ (nI 0 ≤ q ∧ q ≤ nI 258) then if m_cn M (nT s) = true then if (m_lookT (nT s) M).2.2.2.2.2.1 (nT q) = true then m_E ((m_lookT (nT s) M).2.2.2.2.2.2.1 (nT q)) (m_wd b (nT s) (nT q) (m_lookT (nT s) M)) else m_F 3 (m_lookT (nT s) M) else m_F 2 M else m_F 1 M
def m_exists (s q : Int32) (b : Bool) (M : mR) : Int32 × mR := if (nI 0 ≤ s ∧ s ≤ nI 3) ∧ (nI 0 ≤ q ∧ q ≤ nI 258) then if m_cn M (nT s) = true then m_E (bI ((m_lookT (nT s) M).2.2.2.2.2.1 (nT q))) (m_wd b (nT s) (nT q) (m_lookT (nT s) M)) else m_F 2 M else m_F 1 M
def m_children (s q : Int32) (b : Bool) (M : mR) : Int32 × mR := if (nI 0 ≤ s ∧ s ≤ nI 3) ∧ (nI 0 ≤ q ∧ q ≤ nI 42) then if m_cn M (nT s) = true then if (m_lookT (nT s) M).2.2.2.2.2.1 (nT q) = true then m_E (kidB (m_lookT (nT s) M).2.2.2.2.2.1 (nT q) 6) (m_wc b (nT s) (nT q) (m_lookT (nT s) M)) else m_F 3 (m_lookT (nT s) M) else m_F 2 M else m_F 1 M
def m_fact (s q w : Int32) (M : mR) : Int32 × mR := if (nI 0 ≤ s ∧ s ≤ nI 3) ∧ (nI 0 ≤ q ∧ q ≤ nI 258) ∧ (nI 0 ≤ w ∧ w ≤ nI 2) then if m_cn M (nT s) = true then if (m_lookT (nT s) M).2.2.2.2.2.1 (nT q) = true then m_E (if nT w = 0 then (m_lookT (nT s) M).2.2.2.2.2.2.2.1 (nT q) else if nT w = 1 then nI ((m_lookT (nT s) M).2.2.2.2.2.2.2.2.1 (nT q)) else (m_lookT (nT s) M).2.2.2.2.2.2.2.2.2 (nT q)) (m_lookT (nT s) M) else m_F 3 (m_lookT (nT s) M) else m_F 2 M else m_F 1 M
set_option maxHeartbeats 400000 in
set_option maxRecDepth 100000 in
theorem c_md_get {l : Launch} {G : q_G} (htr : l.stackTraces = false) {h : q_H} {N : Nat} {fa : Int32} {ld : Option Nat} {ep : Nat} {tm : Int32} {L : mL} {S : mS} {C : mC} {W : mW} {T : mT} {s q : Int32} {b : Bool} {n : Nat} (hn : n ≤ 72) (hO : mOK n ((fa, ld, ep, tm), L, S, C, W, T)) : q_Met l G m_md_get 7 165 0 0 [.ref (42), .int (s), .int (q), .int (bI (b))] (md_put h ((fa, ld, ep, tm), L, S, C, W, T)) N (q_To (some (.int (m_get s q b ((fa, ld, ep, tm), L, S, C, W, T)).1)) (md_put h (m_get s q b ((fa, ld, ep, tm), L, S, C, W, T)).2) N) := by
  obtain ⟨r0, hr0⟩ : ∃ r, r = m_get s q b ((fa, ld, ep, tm), L, S, C, W, T) := ⟨_, rfl⟩
  rw [← hr0]
  refine q_Met.mk htr (by decide +kernel) rfl (List.forall_mem_cons.mpr ⟨rfl, List.forall_mem_cons.mpr ⟨rfl, List.forall_mem_cons.mpr ⟨rfl, List.forall_mem_cons.mpr ⟨rfl, fun _ h => nomatch h⟩⟩⟩⟩) (Nat.le_of_ble_eq_true rfl) ?_
  by_cases hin : (nI 0 ≤ s ∧ s ≤ nI 3) ∧ (nI 0 ≤ q ∧ q ≤ nI 258)
  · have hin1 := hin
    obtain ⟨hs, hq⟩ := hin
    obtain ⟨j, hj, ej⟩ := q_ofL (n := 3) (by decide) hs
    subst ej
    obtain ⟨p, hp, ep⟩ := q_ofL (n := 258) (by decide) hq
    subst ep
    have haj := hO.2.1 j hj
    cases cn : m_cn ((fa, ld, ep, tm), L, S, C, W, T) j with
    | false =>
      have eL : m_look (nI j) (nI p) 258 ((fa, ld, ep, tm), L, S, C, W, T) = (nI 2, ((fa, ld, ep, tm), L, S, C, W, T)) := by unfold m_look; rw [if_pos hin1, nT_n (by omega), if_neg (by rw [cn]; decide)]
      refine e_aload_n (pc := 0) d_md_get_0 rfl ?_
      refine e_aload_n (pc := 1) d_md_get_1 rfl ?_
      refine e_iload_n (pc := 2) d_md_get_2 rfl ?_
      refine e_iload_n (pc := 3) d_md_get_3 rfl ?_
      refine e_sipush (pc := 4) d_md_get_4 (v := (nI (259))) rfl ?_
      have hML := c_md_look (l := l) (G := G) htr (h := h) (N := N) (fa := fa) (ld := ld) (ep := ep) (tm := tm) (L := L) (S := S) (C := C) (W := W) (T := T) (s := nI j) (q := nI p) (m := 258) (by decide) hn hO
      rw [eL] at hML
      refine e_callV (As := [.int (nI (j)), .int (nI (p)), .int (nI (259))]) (st := [.ref (42)]) (cc2 := 0) (ss2 := 0) (pc := 7) d_md_get_7 rfl cv_md_167 md_g42 rfl (hML) rfl (by decide) (by decide) (by omega) (by omega) (Nat.le_of_ble_eq_true rfl) (fun _ _ _ hq => nomatch hq.1) (fun r h2 N2 hq => ?_)
      obtain ⟨hr, e1, e2⟩ := hq
      cases hr
      rw [e1, e2]
      clear e1 e2
      show q_Ev l G m_md_get 7 165 0 0 10 [some (.ref (42)), some (.int (nI (j))), some (.int (nI (p))), some (.int (bI (b))), none] [.int (nI (2)), .ref (42)] _ N _
      show q_Ev l G m_md_get 7 165 0 0 10 [some (.ref (42)), some (.int (nI (j))), some (.int (nI (p))), some (.int (bI (b))), none] [.int (nI (2)), .ref (42)] (md_put h ((fa, ld, ep, tm), ((L.1), (L.2.1), (L.2.2.1), (L.2.2.2)), ((S.1), (S.2.1), (S.2.2.1), (S.2.2.2.1), (S.2.2.2.2)), ((C.1), (C.2.1), (C.2.2.1), (C.2.2.2.1), (C.2.2.2.2)), ((W.1), (W.2.1), (W.2.2.1), (W.2.2.2)), ((T.1), (T.2.1), (T.2.2.1), (T.2.2.2.1), (T.2.2.2.2)))) N _
      refine e_putE (pc := 10) d_md_get_10 (fs2 := [.int (nI (2)), .ref (43), .ref (44), .ref (45), .ref (46), .ref (47), .ref (48), .ref (49), .ref (50), .ref (51), .int (ldI ld), .int (nI (ep)), .int (tm), .ref (52), .ref (53), .ref (54), .ref (55), .ref (56), .ref (57), .ref (58), .ref (59), .ref (60), .ref (61), .ref (62), .ref (63), .ref (64), .ref (65)]) fl_md_84 md_g42 (Nat.le_of_ble_eq_true rfl) (fun _ => rfl) (fun _ => rfl) rfl ?_
      rw [md_u42 (ld := ld)]
      show q_Ev l G m_md_get 7 165 0 0 13 [some (.ref (42)), some (.int (nI (j))), some (.int (nI (p))), some (.int (bI (b))), none] [] (md_put h (((nI (2)), ld, (ep), (tm)), ((L.1), (L.2.1), (L.2.2.1), (L.2.2.2)), ((S.1), (S.2.1), (S.2.2.1), (S.2.2.2.1), (S.2.2.2.2)), ((C.1), (C.2.1), (C.2.2.1), (C.2.2.2.1), (C.2.2.2.2)), ((W.1), (W.2.1), (W.2.2.1), (W.2.2.2)), ((T.1), (T.2.1), (T.2.2.1), (T.2.2.2.1), (T.2.2.2.2)))) N _
      refine e_aload_n (pc := 13) d_md_get_13 rfl ?_
      refine e_get (pc := 14) d_md_get_14 fl_md_84 md_g42 rfl ?_
      refine e_if_neN (a := 2) (pc := 17) (tgt := 34) d_md_get_17 (by decide) (by decide) (fun _ => ?_) (fun z => absurd z (by decide))
      refine e_aload_n (pc := 34) d_md_get_34 rfl ?_
      refine e_get (pc := 35) d_md_get_35 fl_md_84 md_g42 rfl ?_
      refine e_if_leN (a := 2) (pc := 38) (tgt := 43) d_md_get_38 (by decide) (by decide) (fun z => absurd z (by decide)) (fun _ => ?_)
      refine e_iconst (pc := 41) d_md_get_41 (v := (nI (0))) rfl ?_
      exact e_iret (pc := 42) d_md_get_42 rfl (by rw [hr0]; unfold m_get; rw [if_pos hin1, nT_n (by omega), nT_n (by omega), if_neg (by rw [cn]; decide)]; exact ⟨rfl, rfl, rfl⟩)
    | true =>
      have eL : m_look (nI j) (nI p) 258 ((fa, ld, ep, tm), L, S, C, W, T) = (nI 0, m_lookT j ((fa, ld, ep, tm), L, S, C, W, T)) := by unfold m_look; rw [if_pos hin1, nT_n (by omega), if_pos cn]
      refine e_aload_n (pc := 0) d_md_get_0 rfl ?_
      refine e_aload_n (pc := 1) d_md_get_1 rfl ?_
      refine e_iload_n (pc := 2) d_md_get_2 rfl ?_
      refine e_iload_n (pc := 3) d_md_get_3 rfl ?_
      refine e_sipush (pc := 4) d_md_get_4 (v := (nI (259))) rfl ?_
      have hML := c_md_look (l := l) (G := G) htr (h := h) (N := N) (fa := fa) (ld := ld) (ep := ep) (tm := tm) (L := L) (S := S) (C := C) (W := W) (T := T) (s := nI j) (q := nI p) (m := 258) (by decide) hn hO
      rw [eL] at hML
      refine e_callV (As := [.int (nI (j)), .int (nI (p)), .int (nI (259))]) (st := [.ref (42)]) (cc2 := 0) (ss2 := 0) (pc := 7) d_md_get_7 rfl cv_md_167 md_g42 rfl (hML) rfl (by decide) (by decide) (by omega) (by omega) (Nat.le_of_ble_eq_true rfl) (fun _ _ _ hq => nomatch hq.1) (fun r h2 N2 hq => ?_)
      obtain ⟨hr, e1, e2⟩ := hq
      cases hr
      rw [e1, e2]
      clear e1 e2
      show q_Ev l G m_md_get 7 165 0 0 10 [some (.ref (42)), some (.int (nI (j))), some (.int (nI (p))), some (.int (bI (b))), none] [.int (nI (0)), .ref (42)] _ N _
      show q_Ev l G m_md_get 7 165 0 0 10 [some (.ref (42)), some (.int (nI (j))), some (.int (nI (p))), some (.int (bI (b))), none] [.int (nI (0)), .ref (42)] (md_put h ((fa, ld, ep, tm), ((L.1), (L.2.1), (L.2.2.1), (L.2.2.2)), ((S.1), (S.2.1), (S.2.2.1), (S.2.2.2.1), (S.2.2.2.2)), ((C.1), (C.2.1), (C.2.2.1), (C.2.2.2.1), (C.2.2.2.2)), ((W.1), (W.2.1), (W.2.2.1), (W.2.2.2)), (((grT L (C.2.2.1 j) (S.2.1 (C.2.2.1 j)) T).1), ((grT L (C.2.2.1 j) (S.2.1 (C.2.2.1 j)) T).2.1), ((grT L (C.2.2.1 j) (S.2.1 (C.2.2.1 j)) T).2.2.1), ((grT L (C.2.2.1 j) (S.2.1 (C.2.2.1 j)) T).2.2.2.1), ((grT L (C.2.2.1 j) (S.2.1 (C.2.2.1 j)) T).2.2.2.2)))) N _
      refine e_putE (pc := 10) d_md_get_10 (fs2 := [.int (nI (0)), .ref (43), .ref (44), .ref (45), .ref (46), .ref (47), .ref (48), .ref (49), .ref (50), .ref (51), .int (ldI ld), .int (nI (ep)), .int (tm), .ref (52), .ref (53), .ref (54), .ref (55), .ref (56), .ref (57), .ref (58), .ref (59), .ref (60), .ref (61), .ref (62), .ref (63), .ref (64), .ref (65)]) fl_md_84 md_g42 (Nat.le_of_ble_eq_true rfl) (fun _ => rfl) (fun _ => rfl) rfl ?_
      rw [md_u42 (ld := ld)]
      show q_Ev l G m_md_get 7 165 0 0 13 [some (.ref (42)), some (.int (nI (j))), some (.int (nI (p))), some (.int (bI (b))), none] [] (md_put h (((nI (0)), ld, (ep), (tm)), ((L.1), (L.2.1), (L.2.2.1), (L.2.2.2)), ((S.1), (S.2.1), (S.2.2.1), (S.2.2.2.1), (S.2.2.2.2)), ((C.1), (C.2.1), (C.2.2.1), (C.2.2.2.1), (C.2.2.2.2)), ((W.1), (W.2.1), (W.2.2.1), (W.2.2.2)), (((grT L (C.2.2.1 j) (S.2.1 (C.2.2.1 j)) T).1), ((grT L (C.2.2.1 j) (S.2.1 (C.2.2.1 j)) T).2.1), ((grT L (C.2.2.1 j) (S.2.1 (C.2.2.1 j)) T).2.2.1), ((grT L (C.2.2.1 j) (S.2.1 (C.2.2.1 j)) T).2.2.2.1), ((grT L (C.2.2.1 j) (S.2.1 (C.2.2.1 j)) T).2.2.2.2)))) N _
      refine e_aload_n (pc := 13) d_md_get_13 rfl ?_
      refine e_get (pc := 14) d_md_get_14 fl_md_84 md_g42 rfl ?_
      refine e_if_neN (a := 0) (pc := 17) (tgt := 34) d_md_get_17 (by decide) (by decide) (fun z => absurd rfl z) (fun _ => ?_)
      refine e_aload_n (pc := 20) d_md_get_20 rfl ?_
      refine e_get (pc := 21) d_md_get_21 fl_md_69 md_g42 rfl ?_
      refine e_iload_n (pc := 24) d_md_get_24 rfl ?_
      refine e_zaldN (pc := 25) d_md_get_25 (f := ((grT L (C.2.2.1 j) (S.2.1 (C.2.2.1 j)) T).1)) md_g61 (by omega) (by decide) ?_
      refine e_ifB_ne (pc := 26) (tgt := 34) d_md_get_26 (by decide) (fun ct => ?_) (fun ct => ?_)
      · have ct2 : (m_lookT j ((fa, ld, ep, tm), L, S, C, W, T)).2.2.2.2.2.1 p = true := ct
        refine e_aload_n (pc := 34) d_md_get_34 rfl ?_
        refine e_get (pc := 35) d_md_get_35 fl_md_84 md_g42 rfl ?_
        refine e_if_leN (a := 0) (pc := 38) (tgt := 43) d_md_get_38 (by decide) (by decide) (fun _ => ?_) (fun z => absurd rfl z)
        refine e_aload_n (pc := 43) d_md_get_43 rfl ?_
        refine e_get (pc := 44) d_md_get_44 fl_md_72 md_g42 rfl ?_
        refine e_iload_n (pc := 47) d_md_get_47 rfl ?_
        refine e_ialdN (pc := 48) d_md_get_48 (f := ((grT L (C.2.2.1 j) (S.2.1 (C.2.2.1 j)) T).2.1)) md_g62 (by omega) (by decide) ?_
        refine e_istore (pc := 49) d_md_get_49 (by decide) ?_
        refine e_iload_n (pc := 51) d_md_get_51 rfl ?_
        refine e_ifB_eq (pc := 52) (tgt := 68) d_md_get_52 (by decide) (fun cb => ?_) (fun cb => ?_)
        · subst cb
          refine e_aload_n (pc := 68) d_md_get_68 rfl ?_
          refine e_iload (pc := 69) d_md_get_69 rfl ?_
          refine e_callV (As := [.int ((((grT L (C.2.2.1 j) (S.2.1 (C.2.2.1 j)) T).2.1)) (p))]) (st := []) (cc2 := 0) (ss2 := 0) (pc := 71) d_md_get_71 rfl cv_md_155 md_g42 rfl (c_md_end htr (show _ ≤ 76 by omega) ⟨hO.1, hO.2.1, hO.2.2.1, hO.2.2.2⟩) rfl (by decide) (by decide) (by omega) (by omega) (Nat.le_of_ble_eq_true rfl) (fun _ _ _ hq => nomatch hq.1) (fun r h2 N2 hq => ?_)
          obtain ⟨hr, e1, e2⟩ := hq
          cases hr
          rw [e1, e2]
          clear e1 e2
          show q_Ev l G m_md_get 7 165 0 0 74 [some (.ref (42)), some (.int (nI (j))), some (.int (nI (p))), some (.int (bI (false))), some (.int ((((grT L (C.2.2.1 j) (S.2.1 (C.2.2.1 j)) T).2.1)) (p)))] [.int ((((grT L (C.2.2.1 j) (S.2.1 (C.2.2.1 j)) T).2.1)) (p))] _ N _
          exact e_iret (pc := 74) d_md_get_74 rfl (by rw [hr0]; unfold m_get; rw [if_pos hin1, nT_n (by omega), nT_n (by omega), if_pos cn, if_pos ct2]; exact ⟨rfl, rfl, rfl⟩)
        · subst cb
          refine e_aload_n (pc := 55) d_md_get_55 rfl ?_
          refine e_get (pc := 56) d_md_get_56 fl_md_57 md_g42 rfl ?_
          refine e_sipush (pc := 59) d_md_get_59 (v := (nI (259))) rfl ?_
          refine e_iload_n (pc := 62) d_md_get_62 rfl ?_
          refine e_imulN (pc := 63) d_md_get_63  ?_
          refine e_iload_n (pc := 64) d_md_get_64 rfl ?_
          refine e_iaddN (pc := 65) d_md_get_65  ?_
          refine e_iconst (pc := 66) d_md_get_66 (v := (bI (true))) rfl ?_
          refine e_zastN (pc := 67) d_md_get_67 (f := (W.1)) md_g57 (by omega) (by decide) ?_
          rw [md_u57]
          show q_Ev l G m_md_get 7 165 0 0 68 [some (.ref (42)), some (.int (nI (j))), some (.int (nI (p))), some (.int (bI (true))), some (.int ((((grT L (C.2.2.1 j) (S.2.1 (C.2.2.1 j)) T).2.1)) (p)))] [] (md_put h (((nI (0)), ld, (ep), (tm)), ((L.1), (L.2.1), (L.2.2.1), (L.2.2.2)), ((S.1), (S.2.1), (S.2.2.1), (S.2.2.2.1), (S.2.2.2.2)), ((C.1), (C.2.1), (C.2.2.1), (C.2.2.2.1), (C.2.2.2.2)), ((va_up ((W.1)) (((259) * (j)) + (p)) (true)), (W.2.1), (W.2.2.1), (W.2.2.2)), (((grT L (C.2.2.1 j) (S.2.1 (C.2.2.1 j)) T).1), ((grT L (C.2.2.1 j) (S.2.1 (C.2.2.1 j)) T).2.1), ((grT L (C.2.2.1 j) (S.2.1 (C.2.2.1 j)) T).2.2.1), ((grT L (C.2.2.1 j) (S.2.1 (C.2.2.1 j)) T).2.2.2.1), ((grT L (C.2.2.1 j) (S.2.1 (C.2.2.1 j)) T).2.2.2.2)))) N _
          refine e_aload_n (pc := 68) d_md_get_68 rfl ?_
          refine e_iload (pc := 69) d_md_get_69 rfl ?_
          refine e_callV (As := [.int ((((grT L (C.2.2.1 j) (S.2.1 (C.2.2.1 j)) T).2.1)) (p))]) (st := []) (cc2 := 0) (ss2 := 0) (pc := 71) d_md_get_71 rfl cv_md_155 md_g42 rfl (c_md_end htr (show _ ≤ 76 by omega) ⟨hO.1, hO.2.1, hO.2.2.1, hO.2.2.2⟩) rfl (by decide) (by decide) (by omega) (by omega) (Nat.le_of_ble_eq_true rfl) (fun _ _ _ hq => nomatch hq.1) (fun r h2 N2 hq => ?_)
          obtain ⟨hr, e1, e2⟩ := hq
          cases hr
          rw [e1, e2]
          clear e1 e2
          show q_Ev l G m_md_get 7 165 0 0 74 [some (.ref (42)), some (.int (nI (j))), some (.int (nI (p))), some (.int (bI (true))), some (.int ((((grT L (C.2.2.1 j) (S.2.1 (C.2.2.1 j)) T).2.1)) (p)))] [.int ((((grT L (C.2.2.1 j) (S.2.1 (C.2.2.1 j)) T).2.1)) (p))] _ N _
          exact e_iret (pc := 74) d_md_get_74 rfl (by rw [hr0]; unfold m_get; rw [if_pos hin1, nT_n (by omega), nT_n (by omega), if_pos cn, if_pos ct2]; exact ⟨rfl, rfl, rfl⟩)
      · have ct2 : (m_lookT j ((fa, ld, ep, tm), L, S, C, W, T)).2.2.2.2.2.1 p = false := ct
        refine e_aload_n (pc := 29) d_md_get_29 rfl ?_
        refine e_iconst (pc := 30) d_md_get_30 (v := (nI (3))) rfl ?_
        refine e_putE (pc := 31) d_md_get_31 (fs2 := [.int (nI (3)), .ref (43), .ref (44), .ref (45), .ref (46), .ref (47), .ref (48), .ref (49), .ref (50), .ref (51), .int (ldI ld), .int (nI ((ep))), .int ((tm)), .ref (52), .ref (53), .ref (54), .ref (55), .ref (56), .ref (57), .ref (58), .ref (59), .ref (60), .ref (61), .ref (62), .ref (63), .ref (64), .ref (65)]) fl_md_84 md_g42 (Nat.le_of_ble_eq_true rfl) (fun _ => rfl) (fun _ => rfl) rfl ?_
        rw [md_u42 (ld := ld)]
        show q_Ev l G m_md_get 7 165 0 0 34 [some (.ref (42)), some (.int (nI (j))), some (.int (nI (p))), some (.int (bI (b))), none] [] (md_put h (((nI (3)), ld, ((ep)), ((tm))), ((L.1), (L.2.1), (L.2.2.1), (L.2.2.2)), ((S.1), (S.2.1), (S.2.2.1), (S.2.2.2.1), (S.2.2.2.2)), ((C.1), (C.2.1), (C.2.2.1), (C.2.2.2.1), (C.2.2.2.2)), ((W.1), (W.2.1), (W.2.2.1), (W.2.2.2)), (((grT L (C.2.2.1 j) (S.2.1 (C.2.2.1 j)) T).1), ((grT L (C.2.2.1 j) (S.2.1 (C.2.2.1 j)) T).2.1), ((grT L (C.2.2.1 j) (S.2.1 (C.2.2.1 j)) T).2.2.1), ((grT L (C.2.2.1 j) (S.2.1 (C.2.2.1 j)) T).2.2.2.1), ((grT L (C.2.2.1 j) (S.2.1 (C.2.2.1 j)) T).2.2.2.2)))) N _
        refine e_aload_n (pc := 34) d_md_get_34 rfl ?_
        refine e_get (pc := 35) d_md_get_35 fl_md_84 md_g42 rfl ?_
        refine e_if_leN (a := 3) (pc := 38) (tgt := 43) d_md_get_38 (by decide) (by decide) (fun z => absurd z (by decide)) (fun _ => ?_)
        refine e_iconst (pc := 41) d_md_get_41 (v := (nI (0))) rfl ?_
        exact e_iret (pc := 42) d_md_get_42 rfl (by rw [hr0]; unfold m_get; rw [if_pos hin1, nT_n (by omega), nT_n (by omega), if_pos cn, if_neg (fun z => absurd (ct2.symm.trans z) (by decide))]; exact ⟨rfl, rfl, rfl⟩)
  · have eL : m_look s q 258 ((fa, ld, ep, tm), L, S, C, W, T) = (nI 1, ((fa, ld, ep, tm), L, S, C, W, T)) := by unfold m_look; rw [if_neg hin]
    refine e_aload_n (pc := 0) d_md_get_0 rfl ?_
    refine e_aload_n (pc := 1) d_md_get_1 rfl ?_
    refine e_iload_n (pc := 2) d_md_get_2 rfl ?_
    refine e_iload_n (pc := 3) d_md_get_3 rfl ?_
    refine e_sipush (pc := 4) d_md_get_4 (v := (nI (259))) rfl ?_
    have hML := c_md_look (l := l) (G := G) htr (h := h) (N := N) (fa := fa) (ld := ld) (ep := ep) (tm := tm) (L := L) (S := S) (C := C) (W := W) (T := T) (s := s) (q := q) (m := 258) (by decide) hn hO
    rw [eL] at hML
    refine e_callV (As := [.int (s), .int (q), .int (nI (259))]) (st := [.ref (42)]) (cc2 := 0) (ss2 := 0) (pc := 7) d_md_get_7 rfl cv_md_167 md_g42 rfl (hML) rfl (by decide) (by decide) (by omega) (by omega) (Nat.le_of_ble_eq_true rfl) (fun _ _ _ hq => nomatch hq.1) (fun r h2 N2 hq => ?_)
    obtain ⟨hr, e1, e2⟩ := hq
    cases hr
    rw [e1, e2]
    clear e1 e2
    show q_Ev l G m_md_get 7 165 0 0 10 [some (.ref (42)), some (.int (s)), some (.int (q)), some (.int (bI (b))), none] [.int (nI (1)), .ref (42)] _ N _
    show q_Ev l G m_md_get 7 165 0 0 10 [some (.ref (42)), some (.int (s)), some (.int (q)), some (.int (bI (b))), none] [.int (nI (1)), .ref (42)] (md_put h ((fa, ld, ep, tm), ((L.1), (L.2.1), (L.2.2.1), (L.2.2.2)), ((S.1), (S.2.1), (S.2.2.1), (S.2.2.2.1), (S.2.2.2.2)), ((C.1), (C.2.1), (C.2.2.1), (C.2.2.2.1), (C.2.2.2.2)), ((W.1), (W.2.1), (W.2.2.1), (W.2.2.2)), ((T.1), (T.2.1), (T.2.2.1), (T.2.2.2.1), (T.2.2.2.2)))) N _
    refine e_putE (pc := 10) d_md_get_10 (fs2 := [.int (nI (1)), .ref (43), .ref (44), .ref (45), .ref (46), .ref (47), .ref (48), .ref (49), .ref (50), .ref (51), .int (ldI ld), .int (nI (ep)), .int (tm), .ref (52), .ref (53), .ref (54), .ref (55), .ref (56), .ref (57), .ref (58), .ref (59), .ref (60), .ref (61), .ref (62), .ref (63), .ref (64), .ref (65)]) fl_md_84 md_g42 (Nat.le_of_ble_eq_true rfl) (fun _ => rfl) (fun _ => rfl) rfl ?_
    rw [md_u42 (ld := ld)]
    show q_Ev l G m_md_get 7 165 0 0 13 [some (.ref (42)), some (.int (s)), some (.int (q)), some (.int (bI (b))), none] [] (md_put h (((nI (1)), ld, (ep), (tm)), ((L.1), (L.2.1), (L.2.2.1), (L.2.2.2)), ((S.1), (S.2.1), (S.2.2.1), (S.2.2.2.1), (S.2.2.2.2)), ((C.1), (C.2.1), (C.2.2.1), (C.2.2.2.1), (C.2.2.2.2)), ((W.1), (W.2.1), (W.2.2.1), (W.2.2.2)), ((T.1), (T.2.1), (T.2.2.1), (T.2.2.2.1), (T.2.2.2.2)))) N _
    refine e_aload_n (pc := 13) d_md_get_13 rfl ?_
    refine e_get (pc := 14) d_md_get_14 fl_md_84 md_g42 rfl ?_
    refine e_if_neN (a := 1) (pc := 17) (tgt := 34) d_md_get_17 (by decide) (by decide) (fun _ => ?_) (fun z => absurd z (by decide))
    refine e_aload_n (pc := 34) d_md_get_34 rfl ?_
    refine e_get (pc := 35) d_md_get_35 fl_md_84 md_g42 rfl ?_
    refine e_if_leN (a := 1) (pc := 38) (tgt := 43) d_md_get_38 (by decide) (by decide) (fun z => absurd z (by decide)) (fun _ => ?_)
    refine e_iconst (pc := 41) d_md_get_41 (v := (nI (0))) rfl ?_
    exact e_iret (pc := 42) d_md_get_42 rfl (by rw [hr0]; unfold m_get; rw [if_neg hin]; exact ⟨rfl, rfl, rfl⟩)
set_option maxHeartbeats 400000 in
set_option maxRecDepth 100000 in
theorem c_md_exists {l : Launch} {G : q_G} (htr : l.stackTraces = false) {h : q_H} {N : Nat} {fa : Int32} {ld : Option Nat} {ep : Nat} {tm : Int32} {L : mL} {S : mS} {C : mC} {W : mW} {T : mT} {s q : Int32} {b : Bool} {n : Nat} (hn : n ≤ 72) (hO : mOK n ((fa, ld, ep, tm), L, S, C, W, T)) : q_Met l G m_md_exists 7 165 0 0 [.ref (42), .int (s), .int (q), .int (bI (b))] (md_put h ((fa, ld, ep, tm), L, S, C, W, T)) N (q_To (some (.int (m_exists s q b ((fa, ld, ep, tm), L, S, C, W, T)).1)) (md_put h (m_exists s q b ((fa, ld, ep, tm), L, S, C, W, T)).2) N) := by
  obtain ⟨r0, hr0⟩ : ∃ r, r = m_exists s q b ((fa, ld, ep, tm), L, S, C, W, T) := ⟨_, rfl⟩
  rw [← hr0]
  refine q_Met.mk htr (by decide +kernel) rfl (List.forall_mem_cons.mpr ⟨rfl, List.forall_mem_cons.mpr ⟨rfl, List.forall_mem_cons.mpr ⟨rfl, List.forall_mem_cons.mpr ⟨rfl, fun _ h => nomatch h⟩⟩⟩⟩) (Nat.le_of_ble_eq_true rfl) ?_
  by_cases hin : (nI 0 ≤ s ∧ s ≤ nI 3) ∧ (nI 0 ≤ q ∧ q ≤ nI 258)
  · have hin1 := hin
    obtain ⟨hs, hq⟩ := hin
    obtain ⟨j, hj, ej⟩ := q_ofL (n := 3) (by decide) hs
    subst ej
    obtain ⟨p, hp, ep⟩ := q_ofL (n := 258) (by decide) hq
    subst ep
    have haj := hO.2.1 j hj
    cases cn : m_cn ((fa, ld, ep, tm), L, S, C, W, T) j with
    | false =>
      have eL : m_look (nI j) (nI p) 258 ((fa, ld, ep, tm), L, S, C, W, T) = (nI 2, ((fa, ld, ep, tm), L, S, C, W, T)) := by unfold m_look; rw [if_pos hin1, nT_n (by omega), if_neg (by rw [cn]; decide)]
      refine e_aload_n (pc := 0) d_md_exists_0 rfl ?_
      refine e_aload_n (pc := 1) d_md_exists_1 rfl ?_
      refine e_iload_n (pc := 2) d_md_exists_2 rfl ?_
      refine e_iload_n (pc := 3) d_md_exists_3 rfl ?_
      refine e_sipush (pc := 4) d_md_exists_4 (v := (nI (259))) rfl ?_
      have hML := c_md_look (l := l) (G := G) htr (h := h) (N := N) (fa := fa) (ld := ld) (ep := ep) (tm := tm) (L := L) (S := S) (C := C) (W := W) (T := T) (s := nI j) (q := nI p) (m := 258) (by decide) hn hO
      rw [eL] at hML
      refine e_callV (As := [.int (nI (j)), .int (nI (p)), .int (nI (259))]) (st := [.ref (42)]) (cc2 := 0) (ss2 := 0) (pc := 7) d_md_exists_7 rfl cv_md_167 md_g42 rfl (hML) rfl (by decide) (by decide) (by omega) (by omega) (Nat.le_of_ble_eq_true rfl) (fun _ _ _ hq => nomatch hq.1) (fun r h2 N2 hq => ?_)
      obtain ⟨hr, e1, e2⟩ := hq
      cases hr
      rw [e1, e2]
      clear e1 e2
      show q_Ev l G m_md_exists 7 165 0 0 10 [some (.ref (42)), some (.int (nI (j))), some (.int (nI (p))), some (.int (bI (b))), none] [.int (nI (2)), .ref (42)] _ N _
      show q_Ev l G m_md_exists 7 165 0 0 10 [some (.ref (42)), some (.int (nI (j))), some (.int (nI (p))), some (.int (bI (b))), none] [.int (nI (2)), .ref (42)] (md_put h ((fa, ld, ep, tm), ((L.1), (L.2.1), (L.2.2.1), (L.2.2.2)), ((S.1), (S.2.1), (S.2.2.1), (S.2.2.2.1), (S.2.2.2.2)), ((C.1), (C.2.1), (C.2.2.1), (C.2.2.2.1), (C.2.2.2.2)), ((W.1), (W.2.1), (W.2.2.1), (W.2.2.2)), ((T.1), (T.2.1), (T.2.2.1), (T.2.2.2.1), (T.2.2.2.2)))) N _
      refine e_putE (pc := 10) d_md_exists_10 (fs2 := [.int (nI (2)), .ref (43), .ref (44), .ref (45), .ref (46), .ref (47), .ref (48), .ref (49), .ref (50), .ref (51), .int (ldI ld), .int (nI (ep)), .int (tm), .ref (52), .ref (53), .ref (54), .ref (55), .ref (56), .ref (57), .ref (58), .ref (59), .ref (60), .ref (61), .ref (62), .ref (63), .ref (64), .ref (65)]) fl_md_84 md_g42 (Nat.le_of_ble_eq_true rfl) (fun _ => rfl) (fun _ => rfl) rfl ?_
      rw [md_u42 (ld := ld)]
      show q_Ev l G m_md_exists 7 165 0 0 13 [some (.ref (42)), some (.int (nI (j))), some (.int (nI (p))), some (.int (bI (b))), none] [] (md_put h (((nI (2)), ld, (ep), (tm)), ((L.1), (L.2.1), (L.2.2.1), (L.2.2.2)), ((S.1), (S.2.1), (S.2.2.1), (S.2.2.2.1), (S.2.2.2.2)), ((C.1), (C.2.1), (C.2.2.1), (C.2.2.2.1), (C.2.2.2.2)), ((W.1), (W.2.1), (W.2.2.1), (W.2.2.2)), ((T.1), (T.2.1), (T.2.2.1), (T.2.2.2.1), (T.2.2.2.2)))) N _
      refine e_aload_n (pc := 13) d_md_exists_13 rfl ?_
      refine e_get (pc := 14) d_md_exists_14 fl_md_84 md_g42 rfl ?_
      refine e_if_leN (a := 2) (pc := 17) (tgt := 22) d_md_exists_17 (by decide) (by decide) (fun z => absurd z (by decide)) (fun _ => ?_)
      refine e_iconst (pc := 20) d_md_exists_20 (v := (bI (false))) rfl ?_
      exact e_retB (pc := 21) d_md_exists_21 rfl (by rw [hr0]; unfold m_exists; rw [if_pos hin1, nT_n (by omega), nT_n (by omega), if_neg (by rw [cn]; decide)]; exact ⟨rfl, rfl, rfl⟩)
    | true =>
      have eL : m_look (nI j) (nI p) 258 ((fa, ld, ep, tm), L, S, C, W, T) = (nI 0, m_lookT j ((fa, ld, ep, tm), L, S, C, W, T)) := by unfold m_look; rw [if_pos hin1, nT_n (by omega), if_pos cn]
      refine e_aload_n (pc := 0) d_md_exists_0 rfl ?_
      refine e_aload_n (pc := 1) d_md_exists_1 rfl ?_
      refine e_iload_n (pc := 2) d_md_exists_2 rfl ?_
      refine e_iload_n (pc := 3) d_md_exists_3 rfl ?_
      refine e_sipush (pc := 4) d_md_exists_4 (v := (nI (259))) rfl ?_
      have hML := c_md_look (l := l) (G := G) htr (h := h) (N := N) (fa := fa) (ld := ld) (ep := ep) (tm := tm) (L := L) (S := S) (C := C) (W := W) (T := T) (s := nI j) (q := nI p) (m := 258) (by decide) hn hO
      rw [eL] at hML
      refine e_callV (As := [.int (nI (j)), .int (nI (p)), .int (nI (259))]) (st := [.ref (42)]) (cc2 := 0) (ss2 := 0) (pc := 7) d_md_exists_7 rfl cv_md_167 md_g42 rfl (hML) rfl (by decide) (by decide) (by omega) (by omega) (Nat.le_of_ble_eq_true rfl) (fun _ _ _ hq => nomatch hq.1) (fun r h2 N2 hq => ?_)
      obtain ⟨hr, e1, e2⟩ := hq
      cases hr
      rw [e1, e2]
      clear e1 e2
      show q_Ev l G m_md_exists 7 165 0 0 10 [some (.ref (42)), some (.int (nI (j))), some (.int (nI (p))), some (.int (bI (b))), none] [.int (nI (0)), .ref (42)] _ N _
      show q_Ev l G m_md_exists 7 165 0 0 10 [some (.ref (42)), some (.int (nI (j))), some (.int (nI (p))), some (.int (bI (b))), none] [.int (nI (0)), .ref (42)] (md_put h ((fa, ld, ep, tm), ((L.1), (L.2.1), (L.2.2.1), (L.2.2.2)), ((S.1), (S.2.1), (S.2.2.1), (S.2.2.2.1), (S.2.2.2.2)), ((C.1), (C.2.1), (C.2.2.1), (C.2.2.2.1), (C.2.2.2.2)), ((W.1), (W.2.1), (W.2.2.1), (W.2.2.2)), (((grT L (C.2.2.1 j) (S.2.1 (C.2.2.1 j)) T).1), ((grT L (C.2.2.1 j) (S.2.1 (C.2.2.1 j)) T).2.1), ((grT L (C.2.2.1 j) (S.2.1 (C.2.2.1 j)) T).2.2.1), ((grT L (C.2.2.1 j) (S.2.1 (C.2.2.1 j)) T).2.2.2.1), ((grT L (C.2.2.1 j) (S.2.1 (C.2.2.1 j)) T).2.2.2.2)))) N _
      refine e_putE (pc := 10) d_md_exists_10 (fs2 := [.int (nI (0)), .ref (43), .ref (44), .ref (45), .ref (46), .ref (47), .ref (48), .ref (49), .ref (50), .ref (51), .int (ldI ld), .int (nI (ep)), .int (tm), .ref (52), .ref (53), .ref (54), .ref (55), .ref (56), .ref (57), .ref (58), .ref (59), .ref (60), .ref (61), .ref (62), .ref (63), .ref (64), .ref (65)]) fl_md_84 md_g42 (Nat.le_of_ble_eq_true rfl) (fun _ => rfl) (fun _ => rfl) rfl ?_
      rw [md_u42 (ld := ld)]
      show q_Ev l G m_md_exists 7 165 0 0 13 [some (.ref (42)), some (.int (nI (j))), some (.int (nI (p))), some (.int (bI (b))), none] [] (md_put h (((nI (0)), ld, (ep), (tm)), ((L.1), (L.2.1), (L.2.2.1), (L.2.2.2)), ((S.1), (S.2.1), (S.2.2.1), (S.2.2.2.1), (S.2.2.2.2)), ((C.1), (C.2.1), (C.2.2.1), (C.2.2.2.1), (C.2.2.2.2)), ((W.1), (W.2.1), (W.2.2.1), (W.2.2.2)), (((grT L (C.2.2.1 j) (S.2.1 (C.2.2.1 j)) T).1), ((grT L (C.2.2.1 j) (S.2.1 (C.2.2.1 j)) T).2.1), ((grT L (C.2.2.1 j) (S.2.1 (C.2.2.1 j)) T).2.2.1), ((grT L (C.2.2.1 j) (S.2.1 (C.2.2.1 j)) T).2.2.2.1), ((grT L (C.2.2.1 j) (S.2.1 (C.2.2.1 j)) T).2.2.2.2)))) N _
      refine e_aload_n (pc := 13) d_md_exists_13 rfl ?_
      refine e_get (pc := 14) d_md_exists_14 fl_md_84 md_g42 rfl ?_
      refine e_if_leN (a := 0) (pc := 17) (tgt := 22) d_md_exists_17 (by decide) (by decide) (fun _ => ?_) (fun z => absurd rfl z)
      refine e_aload_n (pc := 22) d_md_exists_22 rfl ?_
      refine e_get (pc := 23) d_md_exists_23 fl_md_69 md_g42 rfl ?_
      refine e_iload_n (pc := 26) d_md_exists_26 rfl ?_
      refine e_zaldN (pc := 27) d_md_exists_27 (f := ((grT L (C.2.2.1 j) (S.2.1 (C.2.2.1 j)) T).1)) md_g61 (by omega) (by decide) ?_
      refine e_istore (pc := 28) d_md_exists_28 (by decide) ?_
      refine e_iload_n (pc := 30) d_md_exists_30 rfl ?_
      refine e_ifB_eq (pc := 31) (tgt := 47) d_md_exists_31 (by decide) (fun cb => ?_) (fun cb => ?_)
      · subst cb
        refine e_aload_n (pc := 47) d_md_exists_47 rfl ?_
        refine e_iload (pc := 48) d_md_exists_48 rfl ?_
        refine e_ifB_eq (pc := 50) (tgt := 57) d_md_exists_50 (by decide) (fun ct => ?_) (fun ct => ?_)
        · refine e_iconst (pc := 57) d_md_exists_57 (v := (nI (0))) rfl ?_
          refine e_callV (As := [.int (nI (0))]) (st := []) (cc2 := 0) (ss2 := 0) (pc := 58) d_md_exists_58 rfl cv_md_155 md_g42 rfl (c_md_end htr (show _ ≤ 76 by omega) ⟨hO.1, hO.2.1, hO.2.2.1, hO.2.2.2⟩) rfl (by decide) (by decide) (by omega) (by omega) (Nat.le_of_ble_eq_true rfl) (fun _ _ _ hq => nomatch hq.1) (fun r h2 N2 hq => ?_)
          obtain ⟨hr, e1, e2⟩ := hq
          cases hr
          rw [e1, e2]
          clear e1 e2
          show q_Ev l G m_md_exists 7 165 0 0 61 [some (.ref (42)), some (.int (nI (j))), some (.int (nI (p))), some (.int (bI (false))), some (.int (bI ((((grT L (C.2.2.1 j) (S.2.1 (C.2.2.1 j)) T).1)) (p))))] [.int (nI (0))] _ N _
          refine e_iconst (pc := 61) d_md_exists_61 (v := (nI (1))) rfl ?_
          refine e_icmp_neN (pc := 62) (tgt := 69) d_md_exists_62 (by decide) (by decide) (by decide) (fun _ => ?_) (fun c => absurd c (by decide))
          refine e_iconst (pc := 69) d_md_exists_69 (v := (bI (false))) rfl ?_
          exact e_retB (pc := 70) d_md_exists_70 rfl (by rw [hr0]; unfold m_exists; rw [if_pos hin1, nT_n (by omega), nT_n (by omega), if_pos cn]; refine ⟨?_, rfl, rfl⟩; show _ = Sum.inl (some (Value.int (bI ((grT L (C.2.2.1 j) (S.2.1 (C.2.2.1 j)) T).1 p)))); rw [show (grT L (C.2.2.1 j) (S.2.1 (C.2.2.1 j)) T).1 p = false from ct])
        · refine e_iconst (pc := 53) d_md_exists_53 (v := (nI (1))) rfl ?_
          refine e_goto (pc := 54) (tgt := 58) d_md_exists_54 (by decide) ?_
          refine e_callV (As := [.int (nI (1))]) (st := []) (cc2 := 0) (ss2 := 0) (pc := 58) d_md_exists_58 rfl cv_md_155 md_g42 rfl (c_md_end htr (show _ ≤ 76 by omega) ⟨hO.1, hO.2.1, hO.2.2.1, hO.2.2.2⟩) rfl (by decide) (by decide) (by omega) (by omega) (Nat.le_of_ble_eq_true rfl) (fun _ _ _ hq => nomatch hq.1) (fun r h2 N2 hq => ?_)
          obtain ⟨hr, e1, e2⟩ := hq
          cases hr
          rw [e1, e2]
          clear e1 e2
          show q_Ev l G m_md_exists 7 165 0 0 61 [some (.ref (42)), some (.int (nI (j))), some (.int (nI (p))), some (.int (bI (false))), some (.int (bI ((((grT L (C.2.2.1 j) (S.2.1 (C.2.2.1 j)) T).1)) (p))))] [.int (nI (1))] _ N _
          refine e_iconst (pc := 61) d_md_exists_61 (v := (nI (1))) rfl ?_
          refine e_icmp_neN (pc := 62) (tgt := 69) d_md_exists_62 (by decide) (by decide) (by decide) (fun c => absurd c (by decide)) (fun _ => ?_)
          refine e_iconst (pc := 65) d_md_exists_65 (v := (bI (true))) rfl ?_
          refine e_goto (pc := 66) (tgt := 70) d_md_exists_66 (by decide) ?_
          exact e_retB (pc := 70) d_md_exists_70 rfl (by rw [hr0]; unfold m_exists; rw [if_pos hin1, nT_n (by omega), nT_n (by omega), if_pos cn]; refine ⟨?_, rfl, rfl⟩; show _ = Sum.inl (some (Value.int (bI ((grT L (C.2.2.1 j) (S.2.1 (C.2.2.1 j)) T).1 p)))); rw [show (grT L (C.2.2.1 j) (S.2.1 (C.2.2.1 j)) T).1 p = true from ct])
      · subst cb
        refine e_aload_n (pc := 34) d_md_exists_34 rfl ?_
        refine e_get (pc := 35) d_md_exists_35 fl_md_57 md_g42 rfl ?_
        refine e_sipush (pc := 38) d_md_exists_38 (v := (nI (259))) rfl ?_
        refine e_iload_n (pc := 41) d_md_exists_41 rfl ?_
        refine e_imulN (pc := 42) d_md_exists_42  ?_
        refine e_iload_n (pc := 43) d_md_exists_43 rfl ?_
        refine e_iaddN (pc := 44) d_md_exists_44  ?_
        refine e_iconst (pc := 45) d_md_exists_45 (v := (bI (true))) rfl ?_
        refine e_zastN (pc := 46) d_md_exists_46 (f := (W.1)) md_g57 (by omega) (by decide) ?_
        rw [md_u57]
        show q_Ev l G m_md_exists 7 165 0 0 47 [some (.ref (42)), some (.int (nI (j))), some (.int (nI (p))), some (.int (bI (true))), some (.int (bI ((((grT L (C.2.2.1 j) (S.2.1 (C.2.2.1 j)) T).1)) (p))))] [] (md_put h (((nI (0)), ld, (ep), (tm)), ((L.1), (L.2.1), (L.2.2.1), (L.2.2.2)), ((S.1), (S.2.1), (S.2.2.1), (S.2.2.2.1), (S.2.2.2.2)), ((C.1), (C.2.1), (C.2.2.1), (C.2.2.2.1), (C.2.2.2.2)), ((va_up ((W.1)) (((259) * (j)) + (p)) (true)), (W.2.1), (W.2.2.1), (W.2.2.2)), (((grT L (C.2.2.1 j) (S.2.1 (C.2.2.1 j)) T).1), ((grT L (C.2.2.1 j) (S.2.1 (C.2.2.1 j)) T).2.1), ((grT L (C.2.2.1 j) (S.2.1 (C.2.2.1 j)) T).2.2.1), ((grT L (C.2.2.1 j) (S.2.1 (C.2.2.1 j)) T).2.2.2.1), ((grT L (C.2.2.1 j) (S.2.1 (C.2.2.1 j)) T).2.2.2.2)))) N _
        refine e_aload_n (pc := 47) d_md_exists_47 rfl ?_
        refine e_iload (pc := 48) d_md_exists_48 rfl ?_
        refine e_ifB_eq (pc := 50) (tgt := 57) d_md_exists_50 (by decide) (fun ct => ?_) (fun ct => ?_)
        · refine e_iconst (pc := 57) d_md_exists_57 (v := (nI (0))) rfl ?_
          refine e_callV (As := [.int (nI (0))]) (st := []) (cc2 := 0) (ss2 := 0) (pc := 58) d_md_exists_58 rfl cv_md_155 md_g42 rfl (c_md_end htr (show _ ≤ 76 by omega) ⟨hO.1, hO.2.1, hO.2.2.1, hO.2.2.2⟩) rfl (by decide) (by decide) (by omega) (by omega) (Nat.le_of_ble_eq_true rfl) (fun _ _ _ hq => nomatch hq.1) (fun r h2 N2 hq => ?_)
          obtain ⟨hr, e1, e2⟩ := hq
          cases hr
          rw [e1, e2]
          clear e1 e2
          show q_Ev l G m_md_exists 7 165 0 0 61 [some (.ref (42)), some (.int (nI (j))), some (.int (nI (p))), some (.int (bI (true))), some (.int (bI ((((grT L (C.2.2.1 j) (S.2.1 (C.2.2.1 j)) T).1)) (p))))] [.int (nI (0))] _ N _
          refine e_iconst (pc := 61) d_md_exists_61 (v := (nI (1))) rfl ?_
          refine e_icmp_neN (pc := 62) (tgt := 69) d_md_exists_62 (by decide) (by decide) (by decide) (fun _ => ?_) (fun c => absurd c (by decide))
          refine e_iconst (pc := 69) d_md_exists_69 (v := (bI (false))) rfl ?_
          exact e_retB (pc := 70) d_md_exists_70 rfl (by rw [hr0]; unfold m_exists; rw [if_pos hin1, nT_n (by omega), nT_n (by omega), if_pos cn]; refine ⟨?_, rfl, rfl⟩; show _ = Sum.inl (some (Value.int (bI ((grT L (C.2.2.1 j) (S.2.1 (C.2.2.1 j)) T).1 p)))); rw [show (grT L (C.2.2.1 j) (S.2.1 (C.2.2.1 j)) T).1 p = false from ct])
        · refine e_iconst (pc := 53) d_md_exists_53 (v := (nI (1))) rfl ?_
          refine e_goto (pc := 54) (tgt := 58) d_md_exists_54 (by decide) ?_
          refine e_callV (As := [.int (nI (1))]) (st := []) (cc2 := 0) (ss2 := 0) (pc := 58) d_md_exists_58 rfl cv_md_155 md_g42 rfl (c_md_end htr (show _ ≤ 76 by omega) ⟨hO.1, hO.2.1, hO.2.2.1, hO.2.2.2⟩) rfl (by decide) (by decide) (by omega) (by omega) (Nat.le_of_ble_eq_true rfl) (fun _ _ _ hq => nomatch hq.1) (fun r h2 N2 hq => ?_)
          obtain ⟨hr, e1, e2⟩ := hq
          cases hr
          rw [e1, e2]
          clear e1 e2
          show q_Ev l G m_md_exists 7 165 0 0 61 [some (.ref (42)), some (.int (nI (j))), some (.int (nI (p))), some (.int (bI (true))), some (.int (bI ((((grT L (C.2.2.1 j) (S.2.1 (C.2.2.1 j)) T).1)) (p))))] [.int (nI (1))] _ N _
          refine e_iconst (pc := 61) d_md_exists_61 (v := (nI (1))) rfl ?_
          refine e_icmp_neN (pc := 62) (tgt := 69) d_md_exists_62 (by decide) (by decide) (by decide) (fun c => absurd c (by decide)) (fun _ => ?_)
          refine e_iconst (pc := 65) d_md_exists_65 (v := (bI (true))) rfl ?_
          refine e_goto (pc := 66) (tgt := 70) d_md_exists_66 (by decide) ?_
          exact e_retB (pc := 70) d_md_exists_70 rfl (by rw [hr0]; unfold m_exists; rw [if_pos hin1, nT_n (by omega), nT_n (by omega), if_pos cn]; refine ⟨?_, rfl, rfl⟩; show _ = Sum.inl (some (Value.int (bI ((grT L (C.2.2.1 j) (S.2.1 (C.2.2.1 j)) T).1 p)))); rw [show (grT L (C.2.2.1 j) (S.2.1 (C.2.2.1 j)) T).1 p = true from ct])
  · have eL : m_look s q 258 ((fa, ld, ep, tm), L, S, C, W, T) = (nI 1, ((fa, ld, ep, tm), L, S, C, W, T)) := by unfold m_look; rw [if_neg hin]
    refine e_aload_n (pc := 0) d_md_exists_0 rfl ?_
    refine e_aload_n (pc := 1) d_md_exists_1 rfl ?_
    refine e_iload_n (pc := 2) d_md_exists_2 rfl ?_
    refine e_iload_n (pc := 3) d_md_exists_3 rfl ?_
    refine e_sipush (pc := 4) d_md_exists_4 (v := (nI (259))) rfl ?_
    have hML := c_md_look (l := l) (G := G) htr (h := h) (N := N) (fa := fa) (ld := ld) (ep := ep) (tm := tm) (L := L) (S := S) (C := C) (W := W) (T := T) (s := s) (q := q) (m := 258) (by decide) hn hO
    rw [eL] at hML
    refine e_callV (As := [.int (s), .int (q), .int (nI (259))]) (st := [.ref (42)]) (cc2 := 0) (ss2 := 0) (pc := 7) d_md_exists_7 rfl cv_md_167 md_g42 rfl (hML) rfl (by decide) (by decide) (by omega) (by omega) (Nat.le_of_ble_eq_true rfl) (fun _ _ _ hq => nomatch hq.1) (fun r h2 N2 hq => ?_)
    obtain ⟨hr, e1, e2⟩ := hq
    cases hr
    rw [e1, e2]
    clear e1 e2
    show q_Ev l G m_md_exists 7 165 0 0 10 [some (.ref (42)), some (.int (s)), some (.int (q)), some (.int (bI (b))), none] [.int (nI (1)), .ref (42)] _ N _
    show q_Ev l G m_md_exists 7 165 0 0 10 [some (.ref (42)), some (.int (s)), some (.int (q)), some (.int (bI (b))), none] [.int (nI (1)), .ref (42)] (md_put h ((fa, ld, ep, tm), ((L.1), (L.2.1), (L.2.2.1), (L.2.2.2)), ((S.1), (S.2.1), (S.2.2.1), (S.2.2.2.1), (S.2.2.2.2)), ((C.1), (C.2.1), (C.2.2.1), (C.2.2.2.1), (C.2.2.2.2)), ((W.1), (W.2.1), (W.2.2.1), (W.2.2.2)), ((T.1), (T.2.1), (T.2.2.1), (T.2.2.2.1), (T.2.2.2.2)))) N _
    refine e_putE (pc := 10) d_md_exists_10 (fs2 := [.int (nI (1)), .ref (43), .ref (44), .ref (45), .ref (46), .ref (47), .ref (48), .ref (49), .ref (50), .ref (51), .int (ldI ld), .int (nI (ep)), .int (tm), .ref (52), .ref (53), .ref (54), .ref (55), .ref (56), .ref (57), .ref (58), .ref (59), .ref (60), .ref (61), .ref (62), .ref (63), .ref (64), .ref (65)]) fl_md_84 md_g42 (Nat.le_of_ble_eq_true rfl) (fun _ => rfl) (fun _ => rfl) rfl ?_
    rw [md_u42 (ld := ld)]
    show q_Ev l G m_md_exists 7 165 0 0 13 [some (.ref (42)), some (.int (s)), some (.int (q)), some (.int (bI (b))), none] [] (md_put h (((nI (1)), ld, (ep), (tm)), ((L.1), (L.2.1), (L.2.2.1), (L.2.2.2)), ((S.1), (S.2.1), (S.2.2.1), (S.2.2.2.1), (S.2.2.2.2)), ((C.1), (C.2.1), (C.2.2.1), (C.2.2.2.1), (C.2.2.2.2)), ((W.1), (W.2.1), (W.2.2.1), (W.2.2.2)), ((T.1), (T.2.1), (T.2.2.1), (T.2.2.2.1), (T.2.2.2.2)))) N _
    refine e_aload_n (pc := 13) d_md_exists_13 rfl ?_
    refine e_get (pc := 14) d_md_exists_14 fl_md_84 md_g42 rfl ?_
    refine e_if_leN (a := 1) (pc := 17) (tgt := 22) d_md_exists_17 (by decide) (by decide) (fun z => absurd z (by decide)) (fun _ => ?_)
    refine e_iconst (pc := 20) d_md_exists_20 (v := (bI (false))) rfl ?_
    exact e_retB (pc := 21) d_md_exists_21 rfl (by rw [hr0]; unfold m_exists; rw [if_neg hin]; exact ⟨rfl, rfl, rfl⟩)
set_option maxHeartbeats 400000 in
set_option maxRecDepth 100000 in
theorem c_md_children {l : Launch} {G : q_G} (htr : l.stackTraces = false) {h : q_H} {N : Nat} {fa : Int32} {ld : Option Nat} {ep : Nat} {tm : Int32} {L : mL} {S : mS} {C : mC} {W : mW} {T : mT} {s q : Int32} {b : Bool} {n : Nat} (hn : n ≤ 72) (hO : mOK n ((fa, ld, ep, tm), L, S, C, W, T)) : q_Met l G m_md_children 7 165 0 0 [.ref (42), .int (s), .int (q), .int (bI (b))] (md_put h ((fa, ld, ep, tm), L, S, C, W, T)) N (q_To (some (.int (m_children s q b ((fa, ld, ep, tm), L, S, C, W, T)).1)) (md_put h (m_children s q b ((fa, ld, ep, tm), L, S, C, W, T)).2) N) := by
  obtain ⟨r0, hr0⟩ : ∃ r, r = m_children s q b ((fa, ld, ep, tm), L, S, C, W, T) := ⟨_, rfl⟩
  rw [← hr0]
  refine q_Met.mk htr (by decide +kernel) rfl (List.forall_mem_cons.mpr ⟨rfl, List.forall_mem_cons.mpr ⟨rfl, List.forall_mem_cons.mpr ⟨rfl, List.forall_mem_cons.mpr ⟨rfl, fun _ h => nomatch h⟩⟩⟩⟩) (Nat.le_of_ble_eq_true rfl) ?_
  by_cases hin : (nI 0 ≤ s ∧ s ≤ nI 3) ∧ (nI 0 ≤ q ∧ q ≤ nI 42)
  · have hin1 := hin
    obtain ⟨hs, hq⟩ := hin
    obtain ⟨j, hj, ej⟩ := q_ofL (n := 3) (by decide) hs
    subst ej
    obtain ⟨p, hp, ep⟩ := q_ofL (n := 42) (by decide) hq
    subst ep
    have haj := hO.2.1 j hj
    cases cn : m_cn ((fa, ld, ep, tm), L, S, C, W, T) j with
    | false =>
      have eL : m_look (nI j) (nI p) 42 ((fa, ld, ep, tm), L, S, C, W, T) = (nI 2, ((fa, ld, ep, tm), L, S, C, W, T)) := by unfold m_look; rw [if_pos hin1, nT_n (by omega), if_neg (by rw [cn]; decide)]
      refine e_aload_n (pc := 0) d_md_children_0 rfl ?_
      refine e_aload_n (pc := 1) d_md_children_1 rfl ?_
      refine e_iload_n (pc := 2) d_md_children_2 rfl ?_
      refine e_iload_n (pc := 3) d_md_children_3 rfl ?_
      refine e_bipush (pc := 4) d_md_children_4 (v := (nI (43))) rfl ?_
      have hML := c_md_look (l := l) (G := G) htr (h := h) (N := N) (fa := fa) (ld := ld) (ep := ep) (tm := tm) (L := L) (S := S) (C := C) (W := W) (T := T) (s := nI j) (q := nI p) (m := 42) (by decide) hn hO
      rw [eL] at hML
      refine e_callV (As := [.int (nI (j)), .int (nI (p)), .int (nI (43))]) (st := [.ref (42)]) (cc2 := 0) (ss2 := 0) (pc := 6) d_md_children_6 rfl cv_md_167 md_g42 rfl (hML) rfl (by decide) (by decide) (by omega) (by omega) (Nat.le_of_ble_eq_true rfl) (fun _ _ _ hq => nomatch hq.1) (fun r h2 N2 hq => ?_)
      obtain ⟨hr, e1, e2⟩ := hq
      cases hr
      rw [e1, e2]
      clear e1 e2
      show q_Ev l G m_md_children 7 165 0 0 9 [some (.ref (42)), some (.int (nI (j))), some (.int (nI (p))), some (.int (bI (b))), none] [.int (nI (2)), .ref (42)] _ N _
      show q_Ev l G m_md_children 7 165 0 0 9 [some (.ref (42)), some (.int (nI (j))), some (.int (nI (p))), some (.int (bI (b))), none] [.int (nI (2)), .ref (42)] (md_put h ((fa, ld, ep, tm), ((L.1), (L.2.1), (L.2.2.1), (L.2.2.2)), ((S.1), (S.2.1), (S.2.2.1), (S.2.2.2.1), (S.2.2.2.2)), ((C.1), (C.2.1), (C.2.2.1), (C.2.2.2.1), (C.2.2.2.2)), ((W.1), (W.2.1), (W.2.2.1), (W.2.2.2)), ((T.1), (T.2.1), (T.2.2.1), (T.2.2.2.1), (T.2.2.2.2)))) N _
      refine e_putE (pc := 9) d_md_children_9 (fs2 := [.int (nI (2)), .ref (43), .ref (44), .ref (45), .ref (46), .ref (47), .ref (48), .ref (49), .ref (50), .ref (51), .int (ldI ld), .int (nI (ep)), .int (tm), .ref (52), .ref (53), .ref (54), .ref (55), .ref (56), .ref (57), .ref (58), .ref (59), .ref (60), .ref (61), .ref (62), .ref (63), .ref (64), .ref (65)]) fl_md_84 md_g42 (Nat.le_of_ble_eq_true rfl) (fun _ => rfl) (fun _ => rfl) rfl ?_
      rw [md_u42 (ld := ld)]
      show q_Ev l G m_md_children 7 165 0 0 12 [some (.ref (42)), some (.int (nI (j))), some (.int (nI (p))), some (.int (bI (b))), none] [] (md_put h (((nI (2)), ld, (ep), (tm)), ((L.1), (L.2.1), (L.2.2.1), (L.2.2.2)), ((S.1), (S.2.1), (S.2.2.1), (S.2.2.2.1), (S.2.2.2.2)), ((C.1), (C.2.1), (C.2.2.1), (C.2.2.2.1), (C.2.2.2.2)), ((W.1), (W.2.1), (W.2.2.1), (W.2.2.2)), ((T.1), (T.2.1), (T.2.2.1), (T.2.2.2.1), (T.2.2.2.2)))) N _
      refine e_aload_n (pc := 12) d_md_children_12 rfl ?_
      refine e_get (pc := 13) d_md_children_13 fl_md_84 md_g42 rfl ?_
      refine e_if_neN (a := 2) (pc := 16) (tgt := 33) d_md_children_16 (by decide) (by decide) (fun _ => ?_) (fun z => absurd z (by decide))
      refine e_aload_n (pc := 33) d_md_children_33 rfl ?_
      refine e_get (pc := 34) d_md_children_34 fl_md_84 md_g42 rfl ?_
      refine e_if_leN (a := 2) (pc := 37) (tgt := 42) d_md_children_37 (by decide) (by decide) (fun z => absurd z (by decide)) (fun _ => ?_)
      refine e_iconst (pc := 40) d_md_children_40 (v := (nI (0))) rfl ?_
      exact e_iret (pc := 41) d_md_children_41 rfl (by rw [hr0]; unfold m_children; rw [if_pos hin1, nT_n (by omega), nT_n (by omega), if_neg (by rw [cn]; decide)]; exact ⟨rfl, rfl, rfl⟩)
    | true =>
      have eL : m_look (nI j) (nI p) 42 ((fa, ld, ep, tm), L, S, C, W, T) = (nI 0, m_lookT j ((fa, ld, ep, tm), L, S, C, W, T)) := by unfold m_look; rw [if_pos hin1, nT_n (by omega), if_pos cn]
      refine e_aload_n (pc := 0) d_md_children_0 rfl ?_
      refine e_aload_n (pc := 1) d_md_children_1 rfl ?_
      refine e_iload_n (pc := 2) d_md_children_2 rfl ?_
      refine e_iload_n (pc := 3) d_md_children_3 rfl ?_
      refine e_bipush (pc := 4) d_md_children_4 (v := (nI (43))) rfl ?_
      have hML := c_md_look (l := l) (G := G) htr (h := h) (N := N) (fa := fa) (ld := ld) (ep := ep) (tm := tm) (L := L) (S := S) (C := C) (W := W) (T := T) (s := nI j) (q := nI p) (m := 42) (by decide) hn hO
      rw [eL] at hML
      refine e_callV (As := [.int (nI (j)), .int (nI (p)), .int (nI (43))]) (st := [.ref (42)]) (cc2 := 0) (ss2 := 0) (pc := 6) d_md_children_6 rfl cv_md_167 md_g42 rfl (hML) rfl (by decide) (by decide) (by omega) (by omega) (Nat.le_of_ble_eq_true rfl) (fun _ _ _ hq => nomatch hq.1) (fun r h2 N2 hq => ?_)
      obtain ⟨hr, e1, e2⟩ := hq
      cases hr
      rw [e1, e2]
      clear e1 e2
      show q_Ev l G m_md_children 7 165 0 0 9 [some (.ref (42)), some (.int (nI (j))), some (.int (nI (p))), some (.int (bI (b))), none] [.int (nI (0)), .ref (42)] _ N _
      show q_Ev l G m_md_children 7 165 0 0 9 [some (.ref (42)), some (.int (nI (j))), some (.int (nI (p))), some (.int (bI (b))), none] [.int (nI (0)), .ref (42)] (md_put h ((fa, ld, ep, tm), ((L.1), (L.2.1), (L.2.2.1), (L.2.2.2)), ((S.1), (S.2.1), (S.2.2.1), (S.2.2.2.1), (S.2.2.2.2)), ((C.1), (C.2.1), (C.2.2.1), (C.2.2.2.1), (C.2.2.2.2)), ((W.1), (W.2.1), (W.2.2.1), (W.2.2.2)), (((grT L (C.2.2.1 j) (S.2.1 (C.2.2.1 j)) T).1), ((grT L (C.2.2.1 j) (S.2.1 (C.2.2.1 j)) T).2.1), ((grT L (C.2.2.1 j) (S.2.1 (C.2.2.1 j)) T).2.2.1), ((grT L (C.2.2.1 j) (S.2.1 (C.2.2.1 j)) T).2.2.2.1), ((grT L (C.2.2.1 j) (S.2.1 (C.2.2.1 j)) T).2.2.2.2)))) N _
      refine e_putE (pc := 9) d_md_children_9 (fs2 := [.int (nI (0)), .ref (43), .ref (44), .ref (45), .ref (46), .ref (47), .ref (48), .ref (49), .ref (50), .ref (51), .int (ldI ld), .int (nI (ep)), .int (tm), .ref (52), .ref (53), .ref (54), .ref (55), .ref (56), .ref (57), .ref (58), .ref (59), .ref (60), .ref (61), .ref (62), .ref (63), .ref (64), .ref (65)]) fl_md_84 md_g42 (Nat.le_of_ble_eq_true rfl) (fun _ => rfl) (fun _ => rfl) rfl ?_
      rw [md_u42 (ld := ld)]
      show q_Ev l G m_md_children 7 165 0 0 12 [some (.ref (42)), some (.int (nI (j))), some (.int (nI (p))), some (.int (bI (b))), none] [] (md_put h (((nI (0)), ld, (ep), (tm)), ((L.1), (L.2.1), (L.2.2.1), (L.2.2.2)), ((S.1), (S.2.1), (S.2.2.1), (S.2.2.2.1), (S.2.2.2.2)), ((C.1), (C.2.1), (C.2.2.1), (C.2.2.2.1), (C.2.2.2.2)), ((W.1), (W.2.1), (W.2.2.1), (W.2.2.2)), (((grT L (C.2.2.1 j) (S.2.1 (C.2.2.1 j)) T).1), ((grT L (C.2.2.1 j) (S.2.1 (C.2.2.1 j)) T).2.1), ((grT L (C.2.2.1 j) (S.2.1 (C.2.2.1 j)) T).2.2.1), ((grT L (C.2.2.1 j) (S.2.1 (C.2.2.1 j)) T).2.2.2.1), ((grT L (C.2.2.1 j) (S.2.1 (C.2.2.1 j)) T).2.2.2.2)))) N _
      refine e_aload_n (pc := 12) d_md_children_12 rfl ?_
      refine e_get (pc := 13) d_md_children_13 fl_md_84 md_g42 rfl ?_
      refine e_if_neN (a := 0) (pc := 16) (tgt := 33) d_md_children_16 (by decide) (by decide) (fun z => absurd rfl z) (fun _ => ?_)
      refine e_aload_n (pc := 19) d_md_children_19 rfl ?_
      refine e_get (pc := 20) d_md_children_20 fl_md_69 md_g42 rfl ?_
      refine e_iload_n (pc := 23) d_md_children_23 rfl ?_
      refine e_zaldN (pc := 24) d_md_children_24 (f := ((grT L (C.2.2.1 j) (S.2.1 (C.2.2.1 j)) T).1)) md_g61 (by omega) (by decide) ?_
      refine e_ifB_ne (pc := 25) (tgt := 33) d_md_children_25 (by decide) (fun ct => ?_) (fun ct => ?_)
      · have ct2 : (m_lookT j ((fa, ld, ep, tm), L, S, C, W, T)).2.2.2.2.2.1 p = true := ct
        refine e_aload_n (pc := 33) d_md_children_33 rfl ?_
        refine e_get (pc := 34) d_md_children_34 fl_md_84 md_g42 rfl ?_
        refine e_if_leN (a := 0) (pc := 37) (tgt := 42) d_md_children_37 (by decide) (by decide) (fun _ => ?_) (fun z => absurd rfl z)
        refine e_aload_n (pc := 42) d_md_children_42 rfl ?_
        refine e_iload_n (pc := 43) d_md_children_43 rfl ?_
        have hMk := c_md_childrenOf (l := l) (G := G) htr (h := h) (N := N) (A := (nI 0, ld, ep, tm)) (L := L) (S := S) (C := C) (W := W) (T := (grT L (C.2.2.1 j) (S.2.1 (C.2.2.1 j)) T)) (p := p) (by omega)
        rw [if_pos (show p < 43 by omega)] at hMk
        refine e_callV (As := [.int (nI (p))]) (st := []) (cc2 := 0) (ss2 := 0) (pc := 44) d_md_children_44 rfl cv_md_164 md_g42 rfl (hMk) rfl (by decide) (by decide) (by omega) (by omega) (Nat.le_of_ble_eq_true rfl) (fun _ _ _ hq => nomatch hq.1) (fun r h2 N2 hq => ?_)
        obtain ⟨hr, e1, e2⟩ := hq
        cases hr
        rw [e1, e2]
        clear e1 e2
        show q_Ev l G m_md_children 7 165 0 0 47 [some (.ref (42)), some (.int (nI (j))), some (.int (nI (p))), some (.int (bI (b))), none] [.int (kidB (grT L (C.2.2.1 j) (S.2.1 (C.2.2.1 j)) T).1 p 6)] (md_put h (((nI (0)), ld, (ep), (tm)), ((L.1), (L.2.1), (L.2.2.1), (L.2.2.2)), ((S.1), (S.2.1), (S.2.2.1), (S.2.2.2.1), (S.2.2.2.2)), ((C.1), (C.2.1), (C.2.2.1), (C.2.2.2.1), (C.2.2.2.2)), ((W.1), (W.2.1), (W.2.2.1), (W.2.2.2)), (((grT L (C.2.2.1 j) (S.2.1 (C.2.2.1 j)) T).1), ((grT L (C.2.2.1 j) (S.2.1 (C.2.2.1 j)) T).2.1), ((grT L (C.2.2.1 j) (S.2.1 (C.2.2.1 j)) T).2.2.1), ((grT L (C.2.2.1 j) (S.2.1 (C.2.2.1 j)) T).2.2.2.1), ((grT L (C.2.2.1 j) (S.2.1 (C.2.2.1 j)) T).2.2.2.2)))) N _
        refine e_istore (pc := 47) d_md_children_47 (by decide) ?_
        refine e_iload_n (pc := 49) d_md_children_49 rfl ?_
        refine e_ifB_eq (pc := 50) (tgt := 66) d_md_children_50 (by decide) (fun cb => ?_) (fun cb => ?_)
        · subst cb
          refine e_aload_n (pc := 66) d_md_children_66 rfl ?_
          refine e_iload (pc := 67) d_md_children_67 rfl ?_
          refine e_callV (As := [.int (kidB (grT L (C.2.2.1 j) (S.2.1 (C.2.2.1 j)) T).1 p 6)]) (st := []) (cc2 := 0) (ss2 := 0) (pc := 69) d_md_children_69 rfl cv_md_155 md_g42 rfl (c_md_end htr (show _ ≤ 76 by omega) ⟨hO.1, hO.2.1, hO.2.2.1, hO.2.2.2⟩) rfl (by decide) (by decide) (by omega) (by omega) (Nat.le_of_ble_eq_true rfl) (fun _ _ _ hq => nomatch hq.1) (fun r h2 N2 hq => ?_)
          obtain ⟨hr, e1, e2⟩ := hq
          cases hr
          rw [e1, e2]
          clear e1 e2
          show q_Ev l G m_md_children 7 165 0 0 72 [some (.ref (42)), some (.int (nI (j))), some (.int (nI (p))), some (.int (bI (false))), some (.int (kidB (grT L (C.2.2.1 j) (S.2.1 (C.2.2.1 j)) T).1 p 6))] [.int (kidB (grT L (C.2.2.1 j) (S.2.1 (C.2.2.1 j)) T).1 p 6)] _ N _
          exact e_iret (pc := 72) d_md_children_72 rfl (by rw [hr0]; unfold m_children; rw [if_pos hin1, nT_n (by omega), nT_n (by omega), if_pos cn, if_pos ct2]; exact ⟨rfl, rfl, rfl⟩)
        · subst cb
          refine e_aload_n (pc := 53) d_md_children_53 rfl ?_
          refine e_get (pc := 54) d_md_children_54 fl_md_60 md_g42 rfl ?_
          refine e_sipush (pc := 57) d_md_children_57 (v := (nI (259))) rfl ?_
          refine e_iload_n (pc := 60) d_md_children_60 rfl ?_
          refine e_imulN (pc := 61) d_md_children_61  ?_
          refine e_iload_n (pc := 62) d_md_children_62 rfl ?_
          refine e_iaddN (pc := 63) d_md_children_63  ?_
          refine e_iconst (pc := 64) d_md_children_64 (v := (bI (true))) rfl ?_
          refine e_zastN (pc := 65) d_md_children_65 (f := (W.2.1)) md_g58 (by omega) (by decide) ?_
          rw [md_u58]
          show q_Ev l G m_md_children 7 165 0 0 66 [some (.ref (42)), some (.int (nI (j))), some (.int (nI (p))), some (.int (bI (true))), some (.int (kidB (grT L (C.2.2.1 j) (S.2.1 (C.2.2.1 j)) T).1 p 6))] [] (md_put h (((nI (0)), ld, (ep), (tm)), ((L.1), (L.2.1), (L.2.2.1), (L.2.2.2)), ((S.1), (S.2.1), (S.2.2.1), (S.2.2.2.1), (S.2.2.2.2)), ((C.1), (C.2.1), (C.2.2.1), (C.2.2.2.1), (C.2.2.2.2)), ((W.1), (va_up ((W.2.1)) (((259) * (j)) + (p)) (true)), (W.2.2.1), (W.2.2.2)), (((grT L (C.2.2.1 j) (S.2.1 (C.2.2.1 j)) T).1), ((grT L (C.2.2.1 j) (S.2.1 (C.2.2.1 j)) T).2.1), ((grT L (C.2.2.1 j) (S.2.1 (C.2.2.1 j)) T).2.2.1), ((grT L (C.2.2.1 j) (S.2.1 (C.2.2.1 j)) T).2.2.2.1), ((grT L (C.2.2.1 j) (S.2.1 (C.2.2.1 j)) T).2.2.2.2)))) N _
          refine e_aload_n (pc := 66) d_md_children_66 rfl ?_
          refine e_iload (pc := 67) d_md_children_67 rfl ?_
          refine e_callV (As := [.int (kidB (grT L (C.2.2.1 j) (S.2.1 (C.2.2.1 j)) T).1 p 6)]) (st := []) (cc2 := 0) (ss2 := 0) (pc := 69) d_md_children_69 rfl cv_md_155 md_g42 rfl (c_md_end htr (show _ ≤ 76 by omega) ⟨hO.1, hO.2.1, hO.2.2.1, hO.2.2.2⟩) rfl (by decide) (by decide) (by omega) (by omega) (Nat.le_of_ble_eq_true rfl) (fun _ _ _ hq => nomatch hq.1) (fun r h2 N2 hq => ?_)
          obtain ⟨hr, e1, e2⟩ := hq
          cases hr
          rw [e1, e2]
          clear e1 e2
          show q_Ev l G m_md_children 7 165 0 0 72 [some (.ref (42)), some (.int (nI (j))), some (.int (nI (p))), some (.int (bI (true))), some (.int (kidB (grT L (C.2.2.1 j) (S.2.1 (C.2.2.1 j)) T).1 p 6))] [.int (kidB (grT L (C.2.2.1 j) (S.2.1 (C.2.2.1 j)) T).1 p 6)] _ N _
          exact e_iret (pc := 72) d_md_children_72 rfl (by rw [hr0]; unfold m_children; rw [if_pos hin1, nT_n (by omega), nT_n (by omega), if_pos cn, if_pos ct2]; exact ⟨rfl, rfl, rfl⟩)
      · have ct2 : (m_lookT j ((fa, ld, ep, tm), L, S, C, W, T)).2.2.2.2.2.1 p = false := ct
        refine e_aload_n (pc := 28) d_md_children_28 rfl ?_
        refine e_iconst (pc := 29) d_md_children_29 (v := (nI (3))) rfl ?_
        refine e_putE (pc := 30) d_md_children_30 (fs2 := [.int (nI (3)), .ref (43), .ref (44), .ref (45), .ref (46), .ref (47), .ref (48), .ref (49), .ref (50), .ref (51), .int (ldI ld), .int (nI ((ep))), .int ((tm)), .ref (52), .ref (53), .ref (54), .ref (55), .ref (56), .ref (57), .ref (58), .ref (59), .ref (60), .ref (61), .ref (62), .ref (63), .ref (64), .ref (65)]) fl_md_84 md_g42 (Nat.le_of_ble_eq_true rfl) (fun _ => rfl) (fun _ => rfl) rfl ?_
        rw [md_u42 (ld := ld)]
        show q_Ev l G m_md_children 7 165 0 0 33 [some (.ref (42)), some (.int (nI (j))), some (.int (nI (p))), some (.int (bI (b))), none] [] (md_put h (((nI (3)), ld, ((ep)), ((tm))), ((L.1), (L.2.1), (L.2.2.1), (L.2.2.2)), ((S.1), (S.2.1), (S.2.2.1), (S.2.2.2.1), (S.2.2.2.2)), ((C.1), (C.2.1), (C.2.2.1), (C.2.2.2.1), (C.2.2.2.2)), ((W.1), (W.2.1), (W.2.2.1), (W.2.2.2)), (((grT L (C.2.2.1 j) (S.2.1 (C.2.2.1 j)) T).1), ((grT L (C.2.2.1 j) (S.2.1 (C.2.2.1 j)) T).2.1), ((grT L (C.2.2.1 j) (S.2.1 (C.2.2.1 j)) T).2.2.1), ((grT L (C.2.2.1 j) (S.2.1 (C.2.2.1 j)) T).2.2.2.1), ((grT L (C.2.2.1 j) (S.2.1 (C.2.2.1 j)) T).2.2.2.2)))) N _
        refine e_aload_n (pc := 33) d_md_children_33 rfl ?_
        refine e_get (pc := 34) d_md_children_34 fl_md_84 md_g42 rfl ?_
        refine e_if_leN (a := 3) (pc := 37) (tgt := 42) d_md_children_37 (by decide) (by decide) (fun z => absurd z (by decide)) (fun _ => ?_)
        refine e_iconst (pc := 40) d_md_children_40 (v := (nI (0))) rfl ?_
        exact e_iret (pc := 41) d_md_children_41 rfl (by rw [hr0]; unfold m_children; rw [if_pos hin1, nT_n (by omega), nT_n (by omega), if_pos cn, if_neg (fun z => absurd (ct2.symm.trans z) (by decide))]; exact ⟨rfl, rfl, rfl⟩)
  · have eL : m_look s q 42 ((fa, ld, ep, tm), L, S, C, W, T) = (nI 1, ((fa, ld, ep, tm), L, S, C, W, T)) := by unfold m_look; rw [if_neg hin]
    refine e_aload_n (pc := 0) d_md_children_0 rfl ?_
    refine e_aload_n (pc := 1) d_md_children_1 rfl ?_
    refine e_iload_n (pc := 2) d_md_children_2 rfl ?_
    refine e_iload_n (pc := 3) d_md_children_3 rfl ?_
    refine e_bipush (pc := 4) d_md_children_4 (v := (nI (43))) rfl ?_
    have hML := c_md_look (l := l) (G := G) htr (h := h) (N := N) (fa := fa) (ld := ld) (ep := ep) (tm := tm) (L := L) (S := S) (C := C) (W := W) (T := T) (s := s) (q := q) (m := 42) (by decide) hn hO
    rw [eL] at hML
    refine e_callV (As := [.int (s), .int (q), .int (nI (43))]) (st := [.ref (42)]) (cc2 := 0) (ss2 := 0) (pc := 6) d_md_children_6 rfl cv_md_167 md_g42 rfl (hML) rfl (by decide) (by decide) (by omega) (by omega) (Nat.le_of_ble_eq_true rfl) (fun _ _ _ hq => nomatch hq.1) (fun r h2 N2 hq => ?_)
    obtain ⟨hr, e1, e2⟩ := hq
    cases hr
    rw [e1, e2]
    clear e1 e2
    show q_Ev l G m_md_children 7 165 0 0 9 [some (.ref (42)), some (.int (s)), some (.int (q)), some (.int (bI (b))), none] [.int (nI (1)), .ref (42)] _ N _
    show q_Ev l G m_md_children 7 165 0 0 9 [some (.ref (42)), some (.int (s)), some (.int (q)), some (.int (bI (b))), none] [.int (nI (1)), .ref (42)] (md_put h ((fa, ld, ep, tm), ((L.1), (L.2.1), (L.2.2.1), (L.2.2.2)), ((S.1), (S.2.1), (S.2.2.1), (S.2.2.2.1), (S.2.2.2.2)), ((C.1), (C.2.1), (C.2.2.1), (C.2.2.2.1), (C.2.2.2.2)), ((W.1), (W.2.1), (W.2.2.1), (W.2.2.2)), ((T.1), (T.2.1), (T.2.2.1), (T.2.2.2.1), (T.2.2.2.2)))) N _
    refine e_putE (pc := 9) d_md_children_9 (fs2 := [.int (nI (1)), .ref (43), .ref (44), .ref (45), .ref (46), .ref (47), .ref (48), .ref (49), .ref (50), .ref (51), .int (ldI ld), .int (nI (ep)), .int (tm), .ref (52), .ref (53), .ref (54), .ref (55), .ref (56), .ref (57), .ref (58), .ref (59), .ref (60), .ref (61), .ref (62), .ref (63), .ref (64), .ref (65)]) fl_md_84 md_g42 (Nat.le_of_ble_eq_true rfl) (fun _ => rfl) (fun _ => rfl) rfl ?_
    rw [md_u42 (ld := ld)]
    show q_Ev l G m_md_children 7 165 0 0 12 [some (.ref (42)), some (.int (s)), some (.int (q)), some (.int (bI (b))), none] [] (md_put h (((nI (1)), ld, (ep), (tm)), ((L.1), (L.2.1), (L.2.2.1), (L.2.2.2)), ((S.1), (S.2.1), (S.2.2.1), (S.2.2.2.1), (S.2.2.2.2)), ((C.1), (C.2.1), (C.2.2.1), (C.2.2.2.1), (C.2.2.2.2)), ((W.1), (W.2.1), (W.2.2.1), (W.2.2.2)), ((T.1), (T.2.1), (T.2.2.1), (T.2.2.2.1), (T.2.2.2.2)))) N _
    refine e_aload_n (pc := 12) d_md_children_12 rfl ?_
    refine e_get (pc := 13) d_md_children_13 fl_md_84 md_g42 rfl ?_
    refine e_if_neN (a := 1) (pc := 16) (tgt := 33) d_md_children_16 (by decide) (by decide) (fun _ => ?_) (fun z => absurd z (by decide))
    refine e_aload_n (pc := 33) d_md_children_33 rfl ?_
    refine e_get (pc := 34) d_md_children_34 fl_md_84 md_g42 rfl ?_
    refine e_if_leN (a := 1) (pc := 37) (tgt := 42) d_md_children_37 (by decide) (by decide) (fun z => absurd z (by decide)) (fun _ => ?_)
    refine e_iconst (pc := 40) d_md_children_40 (v := (nI (0))) rfl ?_
    exact e_iret (pc := 41) d_md_children_41 rfl (by rw [hr0]; unfold m_children; rw [if_neg hin]; exact ⟨rfl, rfl, rfl⟩)
set_option maxHeartbeats 400000 in
set_option maxRecDepth 100000 in
theorem c_md_fact {l : Launch} {G : q_G} (htr : l.stackTraces = false) {h : q_H} {N : Nat} {fa : Int32} {ld : Option Nat} {ep : Nat} {tm : Int32} {L : mL} {S : mS} {C : mC} {W : mW} {T : mT} {s q w : Int32} {n : Nat} (hn : n ≤ 72) (hO : mOK n ((fa, ld, ep, tm), L, S, C, W, T)) : q_Met l G m_md_fact 7 165 0 0 [.ref (42), .int (s), .int (q), .int (w)] (md_put h ((fa, ld, ep, tm), L, S, C, W, T)) N (q_To (some (.int (m_fact s q w ((fa, ld, ep, tm), L, S, C, W, T)).1)) (md_put h (m_fact s q w ((fa, ld, ep, tm), L, S, C, W, T)).2) N) := by
  obtain ⟨r0, hr0⟩ : ∃ r, r = m_fact s q w ((fa, ld, ep, tm), L, S, C, W, T) := ⟨_, rfl⟩
  rw [← hr0]
  refine q_Met.mk htr (by decide +kernel) rfl (List.forall_mem_cons.mpr ⟨rfl, List.forall_mem_cons.mpr ⟨rfl, List.forall_mem_cons.mpr ⟨rfl, List.forall_mem_cons.mpr ⟨rfl, fun _ h => nomatch h⟩⟩⟩⟩) (Nat.le_of_ble_eq_true rfl) ?_
  refine e_aload_n (pc := 0) d_md_fact_0 rfl ?_
  refine e_aload_n (pc := 1) d_md_fact_1 rfl ?_
  refine e_iload_n (pc := 2) d_md_fact_2 rfl ?_
  refine e_iconst (pc := 3) d_md_fact_3 (v := (nI (3))) rfl ?_
  refine e_callV (As := [.int (w), .int (nI (3))]) (st := [.ref (42)]) (cc2 := 0) (ss2 := 0) (pc := 4) d_md_fact_4 rfl cv_md_145 md_g42 rfl (c_md_out htr) rfl (by decide) (by decide) (by omega) (by omega) (Nat.le_of_ble_eq_true rfl) (fun _ _ _ hq => nomatch hq.1) (fun r h2 N2 hq => ?_)
  obtain ⟨hr, e1, e2⟩ := hq
  cases hr
  rw [e1, e2]
  clear e1 e2
  show q_Ev l G m_md_fact 7 165 0 0 7 [some (.ref (42)), some (.int (s)), some (.int (q)), some (.int (w))] [.int (bI (decide (w < 0 ∨ ¬ w < nI 3))), .ref (42)] (md_put h ((fa, ld, ep, tm), ((L.1), (L.2.1), (L.2.2.1), (L.2.2.2)), ((S.1), (S.2.1), (S.2.2.1), (S.2.2.2.1), (S.2.2.2.2)), ((C.1), (C.2.1), (C.2.2.1), (C.2.2.2.1), (C.2.2.2.2)), ((W.1), (W.2.1), (W.2.2.1), (W.2.2.2)), ((T.1), (T.2.1), (T.2.2.1), (T.2.2.2.1), (T.2.2.2.2)))) N _
  refine e_ifB_eq (pc := 7) (tgt := 14) d_md_fact_7 (by decide) (fun co => ?_) (fun co => ?_)
  · have hw := out_f (n := 2) (by decide) co
    by_cases hin : (nI 0 ≤ s ∧ s ≤ nI 3) ∧ (nI 0 ≤ q ∧ q ≤ nI 258)
    · have hin1 := hin
      have hw1 := hw
      obtain ⟨hs, hq⟩ := hin
      obtain ⟨j, hj, ej⟩ := q_ofL (n := 3) (by decide) hs
      subst ej
      obtain ⟨p, hp, ep⟩ := q_ofL (n := 258) (by decide) hq
      subst ep
      obtain ⟨v, hv, ev⟩ := q_ofL (n := 2) (by decide) hw
      subst ev
      have haj := hO.2.1 j hj
      cases cn : m_cn ((fa, ld, ep, tm), L, S, C, W, T) j with
      | false =>
        have eL : m_look (nI j) (nI p) 258 ((fa, ld, ep, tm), L, S, C, W, T) = (nI 2, ((fa, ld, ep, tm), L, S, C, W, T)) := by unfold m_look; rw [if_pos hin1, nT_n (by omega), if_neg (by rw [cn]; decide)]
        refine e_aload_n (pc := 14) d_md_fact_14 rfl ?_
        refine e_iload_n (pc := 15) d_md_fact_15 rfl ?_
        refine e_iload_n (pc := 16) d_md_fact_16 rfl ?_
        refine e_sipush (pc := 17) d_md_fact_17 (v := (nI (259))) rfl ?_
        have hML := c_md_look (l := l) (G := G) htr (h := h) (N := N) (fa := fa) (ld := ld) (ep := ep) (tm := tm) (L := L) (S := S) (C := C) (W := W) (T := T) (s := nI j) (q := nI p) (m := 258) (by decide) hn hO
        rw [eL] at hML
        refine e_callV (As := [.int (nI (j)), .int (nI (p)), .int (nI (259))]) (st := [.ref (42)]) (cc2 := 0) (ss2 := 0) (pc := 20) d_md_fact_20 rfl cv_md_167 md_g42 rfl (hML) rfl (by decide) (by decide) (by omega) (by omega) (Nat.le_of_ble_eq_true rfl) (fun _ _ _ hq => nomatch hq.1) (fun r h2 N2 hq => ?_)
        obtain ⟨hr, e1, e2⟩ := hq
        cases hr
        rw [e1, e2]
        clear e1 e2
        show q_Ev l G m_md_fact 7 165 0 0 23 [some (.ref (42)), some (.int (nI (j))), some (.int (nI (p))), some (.int (nI (v)))] [.int (nI (2)), .ref (42)] _ N _
        show q_Ev l G m_md_fact 7 165 0 0 23 [some (.ref (42)), some (.int (nI (j))), some (.int (nI (p))), some (.int (nI (v)))] [.int (nI (2)), .ref (42)] (md_put h ((fa, ld, ep, tm), ((L.1), (L.2.1), (L.2.2.1), (L.2.2.2)), ((S.1), (S.2.1), (S.2.2.1), (S.2.2.2.1), (S.2.2.2.2)), ((C.1), (C.2.1), (C.2.2.1), (C.2.2.2.1), (C.2.2.2.2)), ((W.1), (W.2.1), (W.2.2.1), (W.2.2.2)), ((T.1), (T.2.1), (T.2.2.1), (T.2.2.2.1), (T.2.2.2.2)))) N _
        refine e_putE (pc := 23) d_md_fact_23 (fs2 := [.int (nI (2)), .ref (43), .ref (44), .ref (45), .ref (46), .ref (47), .ref (48), .ref (49), .ref (50), .ref (51), .int (ldI ld), .int (nI (ep)), .int (tm), .ref (52), .ref (53), .ref (54), .ref (55), .ref (56), .ref (57), .ref (58), .ref (59), .ref (60), .ref (61), .ref (62), .ref (63), .ref (64), .ref (65)]) fl_md_84 md_g42 (Nat.le_of_ble_eq_true rfl) (fun _ => rfl) (fun _ => rfl) rfl ?_
        rw [md_u42 (ld := ld)]
        show q_Ev l G m_md_fact 7 165 0 0 26 [some (.ref (42)), some (.int (nI (j))), some (.int (nI (p))), some (.int (nI (v)))] [] (md_put h (((nI (2)), ld, (ep), (tm)), ((L.1), (L.2.1), (L.2.2.1), (L.2.2.2)), ((S.1), (S.2.1), (S.2.2.1), (S.2.2.2.1), (S.2.2.2.2)), ((C.1), (C.2.1), (C.2.2.1), (C.2.2.2.1), (C.2.2.2.2)), ((W.1), (W.2.1), (W.2.2.1), (W.2.2.2)), ((T.1), (T.2.1), (T.2.2.1), (T.2.2.2.1), (T.2.2.2.2)))) N _
        refine e_aload_n (pc := 26) d_md_fact_26 rfl ?_
        refine e_get (pc := 27) d_md_fact_27 fl_md_84 md_g42 rfl ?_
        refine e_if_neN (a := 2) (pc := 30) (tgt := 47) d_md_fact_30 (by decide) (by decide) (fun _ => ?_) (fun z => absurd z (by decide))
        refine e_aload_n (pc := 47) d_md_fact_47 rfl ?_
        refine e_get (pc := 48) d_md_fact_48 fl_md_84 md_g42 rfl ?_
        refine e_if_leN (a := 2) (pc := 51) (tgt := 56) d_md_fact_51 (by decide) (by decide) (fun z => absurd z (by decide)) (fun _ => ?_)
        refine e_iconst (pc := 54) d_md_fact_54 (v := (nI (0))) rfl ?_
        exact e_iret (pc := 55) d_md_fact_55 rfl (by rw [hr0]; unfold m_fact; rw [if_pos ⟨hin1.1, hin1.2, hw1⟩, nT_n (by omega), nT_n (by omega), if_neg (by rw [cn]; decide)]; exact ⟨rfl, rfl, rfl⟩)
      | true =>
        have eL : m_look (nI j) (nI p) 258 ((fa, ld, ep, tm), L, S, C, W, T) = (nI 0, m_lookT j ((fa, ld, ep, tm), L, S, C, W, T)) := by unfold m_look; rw [if_pos hin1, nT_n (by omega), if_pos cn]
        refine e_aload_n (pc := 14) d_md_fact_14 rfl ?_
        refine e_iload_n (pc := 15) d_md_fact_15 rfl ?_
        refine e_iload_n (pc := 16) d_md_fact_16 rfl ?_
        refine e_sipush (pc := 17) d_md_fact_17 (v := (nI (259))) rfl ?_
        have hML := c_md_look (l := l) (G := G) htr (h := h) (N := N) (fa := fa) (ld := ld) (ep := ep) (tm := tm) (L := L) (S := S) (C := C) (W := W) (T := T) (s := nI j) (q := nI p) (m := 258) (by decide) hn hO
        rw [eL] at hML
        refine e_callV (As := [.int (nI (j)), .int (nI (p)), .int (nI (259))]) (st := [.ref (42)]) (cc2 := 0) (ss2 := 0) (pc := 20) d_md_fact_20 rfl cv_md_167 md_g42 rfl (hML) rfl (by decide) (by decide) (by omega) (by omega) (Nat.le_of_ble_eq_true rfl) (fun _ _ _ hq => nomatch hq.1) (fun r h2 N2 hq => ?_)
        obtain ⟨hr, e1, e2⟩ := hq
        cases hr
        rw [e1, e2]
        clear e1 e2
        show q_Ev l G m_md_fact 7 165 0 0 23 [some (.ref (42)), some (.int (nI (j))), some (.int (nI (p))), some (.int (nI (v)))] [.int (nI (0)), .ref (42)] _ N _
        show q_Ev l G m_md_fact 7 165 0 0 23 [some (.ref (42)), some (.int (nI (j))), some (.int (nI (p))), some (.int (nI (v)))] [.int (nI (0)), .ref (42)] (md_put h ((fa, ld, ep, tm), ((L.1), (L.2.1), (L.2.2.1), (L.2.2.2)), ((S.1), (S.2.1), (S.2.2.1), (S.2.2.2.1), (S.2.2.2.2)), ((C.1), (C.2.1), (C.2.2.1), (C.2.2.2.1), (C.2.2.2.2)), ((W.1), (W.2.1), (W.2.2.1), (W.2.2.2)), (((grT L (C.2.2.1 j) (S.2.1 (C.2.2.1 j)) T).1), ((grT L (C.2.2.1 j) (S.2.1 (C.2.2.1 j)) T).2.1), ((grT L (C.2.2.1 j) (S.2.1 (C.2.2.1 j)) T).2.2.1), ((grT L (C.2.2.1 j) (S.2.1 (C.2.2.1 j)) T).2.2.2.1), ((grT L (C.2.2.1 j) (S.2.1 (C.2.2.1 j)) T).2.2.2.2)))) N _
        refine e_putE (pc := 23) d_md_fact_23 (fs2 := [.int (nI (0)), .ref (43), .ref (44), .ref (45), .ref (46), .ref (47), .ref (48), .ref (49), .ref (50), .ref (51), .int (ldI ld), .int (nI (ep)), .int (tm), .ref (52), .ref (53), .ref (54), .ref (55), .ref (56), .ref (57), .ref (58), .ref (59), .ref (60), .ref (61), .ref (62), .ref (63), .ref (64), .ref (65)]) fl_md_84 md_g42 (Nat.le_of_ble_eq_true rfl) (fun _ => rfl) (fun _ => rfl) rfl ?_
        rw [md_u42 (ld := ld)]
        show q_Ev l G m_md_fact 7 165 0 0 26 [some (.ref (42)), some (.int (nI (j))), some (.int (nI (p))), some (.int (nI (v)))] [] (md_put h (((nI (0)), ld, (ep), (tm)), ((L.1), (L.2.1), (L.2.2.1), (L.2.2.2)), ((S.1), (S.2.1), (S.2.2.1), (S.2.2.2.1), (S.2.2.2.2)), ((C.1), (C.2.1), (C.2.2.1), (C.2.2.2.1), (C.2.2.2.2)), ((W.1), (W.2.1), (W.2.2.1), (W.2.2.2)), (((grT L (C.2.2.1 j) (S.2.1 (C.2.2.1 j)) T).1), ((grT L (C.2.2.1 j) (S.2.1 (C.2.2.1 j)) T).2.1), ((grT L (C.2.2.1 j) (S.2.1 (C.2.2.1 j)) T).2.2.1), ((grT L (C.2.2.1 j) (S.2.1 (C.2.2.1 j)) T).2.2.2.1), ((grT L (C.2.2.1 j) (S.2.1 (C.2.2.1 j)) T).2.2.2.2)))) N _
        refine e_aload_n (pc := 26) d_md_fact_26 rfl ?_
        refine e_get (pc := 27) d_md_fact_27 fl_md_84 md_g42 rfl ?_
        refine e_if_neN (a := 0) (pc := 30) (tgt := 47) d_md_fact_30 (by decide) (by decide) (fun z => absurd rfl z) (fun _ => ?_)
        refine e_aload_n (pc := 33) d_md_fact_33 rfl ?_
        refine e_get (pc := 34) d_md_fact_34 fl_md_69 md_g42 rfl ?_
        refine e_iload_n (pc := 37) d_md_fact_37 rfl ?_
        refine e_zaldN (pc := 38) d_md_fact_38 (f := ((grT L (C.2.2.1 j) (S.2.1 (C.2.2.1 j)) T).1)) md_g61 (by omega) (by decide) ?_
        refine e_ifB_ne (pc := 39) (tgt := 47) d_md_fact_39 (by decide) (fun ct => ?_) (fun ct => ?_)
        · have ct2 : (m_lookT j ((fa, ld, ep, tm), L, S, C, W, T)).2.2.2.2.2.1 p = true := ct
          refine e_aload_n (pc := 47) d_md_fact_47 rfl ?_
          refine e_get (pc := 48) d_md_fact_48 fl_md_84 md_g42 rfl ?_
          refine e_if_leN (a := 0) (pc := 51) (tgt := 56) d_md_fact_51 (by decide) (by decide) (fun _ => ?_) (fun z => absurd rfl z)
          refine e_aload_n (pc := 56) d_md_fact_56 rfl ?_
          refine e_iload_n (pc := 57) d_md_fact_57 rfl ?_
          refine e_if_neN (pc := 58) (tgt := 70) d_md_fact_58 (by decide) (by omega) (fun c0 => ?_) (fun c0 => ?_)
          · refine e_iload_n (pc := 70) d_md_fact_70 rfl ?_
            refine e_iconst (pc := 71) d_md_fact_71 (v := (nI (1))) rfl ?_
            refine e_icmp_neN (pc := 72) (tgt := 84) d_md_fact_72 (by decide) (by omega) (by omega) (fun c1 => ?_) (fun c1 => ?_)
            · refine e_aload_n (pc := 84) d_md_fact_84 rfl ?_
              refine e_get (pc := 85) d_md_fact_85 fl_md_81 md_g42 rfl ?_
              refine e_iload_n (pc := 88) d_md_fact_88 rfl ?_
              refine e_ialdN (pc := 89) d_md_fact_89 (f := ((grT L (C.2.2.1 j) (S.2.1 (C.2.2.1 j)) T).2.2.2.2)) md_g65 (by omega) (by decide) ?_
              refine e_callV (As := [.int ((((grT L (C.2.2.1 j) (S.2.1 (C.2.2.1 j)) T).2.2.2.2)) (p))]) (st := []) (cc2 := 0) (ss2 := 0) (pc := 90) d_md_fact_90 rfl cv_md_155 md_g42 rfl (c_md_end htr (show _ ≤ 76 by omega) ⟨hO.1, hO.2.1, hO.2.2.1, hO.2.2.2⟩) rfl (by decide) (by decide) (by omega) (by omega) (Nat.le_of_ble_eq_true rfl) (fun _ _ _ hq => nomatch hq.1) (fun r h2 N2 hq => ?_)
              obtain ⟨hr, e1, e2⟩ := hq
              cases hr
              rw [e1, e2]
              clear e1 e2
              show q_Ev l G m_md_fact 7 165 0 0 93 [some (.ref (42)), some (.int (nI (j))), some (.int (nI (p))), some (.int (nI (v)))] [.int ((((grT L (C.2.2.1 j) (S.2.1 (C.2.2.1 j)) T).2.2.2.2)) (p))] _ N _
              exact e_iret (pc := 93) d_md_fact_93 rfl (by rw [hr0]; unfold m_fact; rw [if_pos ⟨hin1.1, hin1.2, hw1⟩, nT_n (by omega), nT_n (by omega), if_pos cn, if_pos ct2, nT_n (by omega), if_neg c0, if_neg c1]; exact ⟨rfl, rfl, rfl⟩)
            · refine e_aload_n (pc := 75) d_md_fact_75 rfl ?_
              refine e_get (pc := 76) d_md_fact_76 fl_md_78 md_g42 rfl ?_
              refine e_iload_n (pc := 79) d_md_fact_79 rfl ?_
              refine e_naldN (pc := 80) d_md_fact_80 (f := ((grT L (C.2.2.1 j) (S.2.1 (C.2.2.1 j)) T).2.2.2.1)) md_g64 (by omega) (by decide) ?_
              refine e_goto (pc := 81) (tgt := 90) d_md_fact_81 (by decide) ?_
              refine e_callV (As := [.int (nI ((((grT L (C.2.2.1 j) (S.2.1 (C.2.2.1 j)) T).2.2.2.1)) (p)))]) (st := []) (cc2 := 0) (ss2 := 0) (pc := 90) d_md_fact_90 rfl cv_md_155 md_g42 rfl (c_md_end htr (show _ ≤ 76 by omega) ⟨hO.1, hO.2.1, hO.2.2.1, hO.2.2.2⟩) rfl (by decide) (by decide) (by omega) (by omega) (Nat.le_of_ble_eq_true rfl) (fun _ _ _ hq => nomatch hq.1) (fun r h2 N2 hq => ?_)
              obtain ⟨hr, e1, e2⟩ := hq
              cases hr
              rw [e1, e2]
              clear e1 e2
              show q_Ev l G m_md_fact 7 165 0 0 93 [some (.ref (42)), some (.int (nI (j))), some (.int (nI (p))), some (.int (nI (v)))] [.int (nI ((((grT L (C.2.2.1 j) (S.2.1 (C.2.2.1 j)) T).2.2.2.1)) (p)))] _ N _
              exact e_iret (pc := 93) d_md_fact_93 rfl (by rw [hr0]; unfold m_fact; rw [if_pos ⟨hin1.1, hin1.2, hw1⟩, nT_n (by omega), nT_n (by omega), if_pos cn, if_pos ct2, nT_n (by omega), if_neg c0, if_pos c1]; exact ⟨rfl, rfl, rfl⟩)
          · refine e_aload_n (pc := 61) d_md_fact_61 rfl ?_
            refine e_get (pc := 62) d_md_fact_62 fl_md_75 md_g42 rfl ?_
            refine e_iload_n (pc := 65) d_md_fact_65 rfl ?_
            refine e_ialdN (pc := 66) d_md_fact_66 (f := ((grT L (C.2.2.1 j) (S.2.1 (C.2.2.1 j)) T).2.2.1)) md_g63 (by omega) (by decide) ?_
            refine e_goto (pc := 67) (tgt := 90) d_md_fact_67 (by decide) ?_
            refine e_callV (As := [.int ((((grT L (C.2.2.1 j) (S.2.1 (C.2.2.1 j)) T).2.2.1)) (p))]) (st := []) (cc2 := 0) (ss2 := 0) (pc := 90) d_md_fact_90 rfl cv_md_155 md_g42 rfl (c_md_end htr (show _ ≤ 76 by omega) ⟨hO.1, hO.2.1, hO.2.2.1, hO.2.2.2⟩) rfl (by decide) (by decide) (by omega) (by omega) (Nat.le_of_ble_eq_true rfl) (fun _ _ _ hq => nomatch hq.1) (fun r h2 N2 hq => ?_)
            obtain ⟨hr, e1, e2⟩ := hq
            cases hr
            rw [e1, e2]
            clear e1 e2
            show q_Ev l G m_md_fact 7 165 0 0 93 [some (.ref (42)), some (.int (nI (j))), some (.int (nI (p))), some (.int (nI (v)))] [.int ((((grT L (C.2.2.1 j) (S.2.1 (C.2.2.1 j)) T).2.2.1)) (p))] _ N _
            exact e_iret (pc := 93) d_md_fact_93 rfl (by rw [hr0]; unfold m_fact; rw [if_pos ⟨hin1.1, hin1.2, hw1⟩, nT_n (by omega), nT_n (by omega), if_pos cn, if_pos ct2, nT_n (by omega), if_pos c0]; exact ⟨rfl, rfl, rfl⟩)
        · have ct2 : (m_lookT j ((fa, ld, ep, tm), L, S, C, W, T)).2.2.2.2.2.1 p = false := ct
          refine e_aload_n (pc := 42) d_md_fact_42 rfl ?_
          refine e_iconst (pc := 43) d_md_fact_43 (v := (nI (3))) rfl ?_
          refine e_putE (pc := 44) d_md_fact_44 (fs2 := [.int (nI (3)), .ref (43), .ref (44), .ref (45), .ref (46), .ref (47), .ref (48), .ref (49), .ref (50), .ref (51), .int (ldI ld), .int (nI ((ep))), .int ((tm)), .ref (52), .ref (53), .ref (54), .ref (55), .ref (56), .ref (57), .ref (58), .ref (59), .ref (60), .ref (61), .ref (62), .ref (63), .ref (64), .ref (65)]) fl_md_84 md_g42 (Nat.le_of_ble_eq_true rfl) (fun _ => rfl) (fun _ => rfl) rfl ?_
          rw [md_u42 (ld := ld)]
          show q_Ev l G m_md_fact 7 165 0 0 47 [some (.ref (42)), some (.int (nI (j))), some (.int (nI (p))), some (.int (nI (v)))] [] (md_put h (((nI (3)), ld, ((ep)), ((tm))), ((L.1), (L.2.1), (L.2.2.1), (L.2.2.2)), ((S.1), (S.2.1), (S.2.2.1), (S.2.2.2.1), (S.2.2.2.2)), ((C.1), (C.2.1), (C.2.2.1), (C.2.2.2.1), (C.2.2.2.2)), ((W.1), (W.2.1), (W.2.2.1), (W.2.2.2)), (((grT L (C.2.2.1 j) (S.2.1 (C.2.2.1 j)) T).1), ((grT L (C.2.2.1 j) (S.2.1 (C.2.2.1 j)) T).2.1), ((grT L (C.2.2.1 j) (S.2.1 (C.2.2.1 j)) T).2.2.1), ((grT L (C.2.2.1 j) (S.2.1 (C.2.2.1 j)) T).2.2.2.1), ((grT L (C.2.2.1 j) (S.2.1 (C.2.2.1 j)) T).2.2.2.2)))) N _
          refine e_aload_n (pc := 47) d_md_fact_47 rfl ?_
          refine e_get (pc := 48) d_md_fact_48 fl_md_84 md_g42 rfl ?_
          refine e_if_leN (a := 3) (pc := 51) (tgt := 56) d_md_fact_51 (by decide) (by decide) (fun z => absurd z (by decide)) (fun _ => ?_)
          refine e_iconst (pc := 54) d_md_fact_54 (v := (nI (0))) rfl ?_
          exact e_iret (pc := 55) d_md_fact_55 rfl (by rw [hr0]; unfold m_fact; rw [if_pos ⟨hin1.1, hin1.2, hw1⟩, nT_n (by omega), nT_n (by omega), if_pos cn, if_neg (fun z => absurd (ct2.symm.trans z) (by decide))]; exact ⟨rfl, rfl, rfl⟩)
    · have eL : m_look s q 258 ((fa, ld, ep, tm), L, S, C, W, T) = (nI 1, ((fa, ld, ep, tm), L, S, C, W, T)) := by unfold m_look; rw [if_neg hin]
      refine e_aload_n (pc := 14) d_md_fact_14 rfl ?_
      refine e_iload_n (pc := 15) d_md_fact_15 rfl ?_
      refine e_iload_n (pc := 16) d_md_fact_16 rfl ?_
      refine e_sipush (pc := 17) d_md_fact_17 (v := (nI (259))) rfl ?_
      have hML := c_md_look (l := l) (G := G) htr (h := h) (N := N) (fa := fa) (ld := ld) (ep := ep) (tm := tm) (L := L) (S := S) (C := C) (W := W) (T := T) (s := s) (q := q) (m := 258) (by decide) hn hO
      rw [eL] at hML
      refine e_callV (As := [.int (s), .int (q), .int (nI (259))]) (st := [.ref (42)]) (cc2 := 0) (ss2 := 0) (pc := 20) d_md_fact_20 rfl cv_md_167 md_g42 rfl (hML) rfl (by decide) (by decide) (by omega) (by omega) (Nat.le_of_ble_eq_true rfl) (fun _ _ _ hq => nomatch hq.1) (fun r h2 N2 hq => ?_)
      obtain ⟨hr, e1, e2⟩ := hq
      cases hr
      rw [e1, e2]
      clear e1 e2
      show q_Ev l G m_md_fact 7 165 0 0 23 [some (.ref (42)), some (.int (s)), some (.int (q)), some (.int (w))] [.int (nI (1)), .ref (42)] _ N _
      show q_Ev l G m_md_fact 7 165 0 0 23 [some (.ref (42)), some (.int (s)), some (.int (q)), some (.int (w))] [.int (nI (1)), .ref (42)] (md_put h ((fa, ld, ep, tm), ((L.1), (L.2.1), (L.2.2.1), (L.2.2.2)), ((S.1), (S.2.1), (S.2.2.1), (S.2.2.2.1), (S.2.2.2.2)), ((C.1), (C.2.1), (C.2.2.1), (C.2.2.2.1), (C.2.2.2.2)), ((W.1), (W.2.1), (W.2.2.1), (W.2.2.2)), ((T.1), (T.2.1), (T.2.2.1), (T.2.2.2.1), (T.2.2.2.2)))) N _
      refine e_putE (pc := 23) d_md_fact_23 (fs2 := [.int (nI (1)), .ref (43), .ref (44), .ref (45), .ref (46), .ref (47), .ref (48), .ref (49), .ref (50), .ref (51), .int (ldI ld), .int (nI (ep)), .int (tm), .ref (52), .ref (53), .ref (54), .ref (55), .ref (56), .ref (57), .ref (58), .ref (59), .ref (60), .ref (61), .ref (62), .ref (63), .ref (64), .ref (65)]) fl_md_84 md_g42 (Nat.le_of_ble_eq_true rfl) (fun _ => rfl) (fun _ => rfl) rfl ?_
      rw [md_u42 (ld := ld)]
      show q_Ev l G m_md_fact 7 165 0 0 26 [some (.ref (42)), some (.int (s)), some (.int (q)), some (.int (w))] [] (md_put h (((nI (1)), ld, (ep), (tm)), ((L.1), (L.2.1), (L.2.2.1), (L.2.2.2)), ((S.1), (S.2.1), (S.2.2.1), (S.2.2.2.1), (S.2.2.2.2)), ((C.1), (C.2.1), (C.2.2.1), (C.2.2.2.1), (C.2.2.2.2)), ((W.1), (W.2.1), (W.2.2.1), (W.2.2.2)), ((T.1), (T.2.1), (T.2.2.1), (T.2.2.2.1), (T.2.2.2.2)))) N _
      refine e_aload_n (pc := 26) d_md_fact_26 rfl ?_
      refine e_get (pc := 27) d_md_fact_27 fl_md_84 md_g42 rfl ?_
      refine e_if_neN (a := 1) (pc := 30) (tgt := 47) d_md_fact_30 (by decide) (by decide) (fun _ => ?_) (fun z => absurd z (by decide))
      refine e_aload_n (pc := 47) d_md_fact_47 rfl ?_
      refine e_get (pc := 48) d_md_fact_48 fl_md_84 md_g42 rfl ?_
      refine e_if_leN (a := 1) (pc := 51) (tgt := 56) d_md_fact_51 (by decide) (by decide) (fun z => absurd z (by decide)) (fun _ => ?_)
      refine e_iconst (pc := 54) d_md_fact_54 (v := (nI (0))) rfl ?_
      exact e_iret (pc := 55) d_md_fact_55 rfl (by rw [hr0]; unfold m_fact; rw [if_neg (fun z => hin ⟨z.1, z.2.1⟩)]; exact ⟨rfl, rfl, rfl⟩)
  · have hw := out_t (n := 2) (by decide) co
    refine e_iconst (pc := 10) d_md_fact_10 (v := (nI (1))) rfl ?_
    refine e_goto (pc := 11) (tgt := 23) d_md_fact_11 (by decide) ?_
    refine e_putE (pc := 23) d_md_fact_23 (fs2 := [.int (nI (1)), .ref (43), .ref (44), .ref (45), .ref (46), .ref (47), .ref (48), .ref (49), .ref (50), .ref (51), .int (ldI ld), .int (nI (ep)), .int (tm), .ref (52), .ref (53), .ref (54), .ref (55), .ref (56), .ref (57), .ref (58), .ref (59), .ref (60), .ref (61), .ref (62), .ref (63), .ref (64), .ref (65)]) fl_md_84 md_g42 (Nat.le_of_ble_eq_true rfl) (fun _ => rfl) (fun _ => rfl) rfl ?_
    rw [md_u42 (ld := ld)]
    show q_Ev l G m_md_fact 7 165 0 0 26 [some (.ref (42)), some (.int (s)), some (.int (q)), some (.int (w))] [] (md_put h (((nI (1)), ld, (ep), (tm)), ((L.1), (L.2.1), (L.2.2.1), (L.2.2.2)), ((S.1), (S.2.1), (S.2.2.1), (S.2.2.2.1), (S.2.2.2.2)), ((C.1), (C.2.1), (C.2.2.1), (C.2.2.2.1), (C.2.2.2.2)), ((W.1), (W.2.1), (W.2.2.1), (W.2.2.2)), ((T.1), (T.2.1), (T.2.2.1), (T.2.2.2.1), (T.2.2.2.2)))) N _
    refine e_aload_n (pc := 26) d_md_fact_26 rfl ?_
    refine e_get (pc := 27) d_md_fact_27 fl_md_84 md_g42 rfl ?_
    refine e_if_neN (a := 1) (pc := 30) (tgt := 47) d_md_fact_30 (by decide) (by decide) (fun _ => ?_) (fun z => absurd z (by decide))
    refine e_aload_n (pc := 47) d_md_fact_47 rfl ?_
    refine e_get (pc := 48) d_md_fact_48 fl_md_84 md_g42 rfl ?_
    refine e_if_leN (a := 1) (pc := 51) (tgt := 56) d_md_fact_51 (by decide) (by decide) (fun z => absurd z (by decide)) (fun _ => ?_)
    refine e_iconst (pc := 54) d_md_fact_54 (v := (nI (0))) rfl ?_
    exact e_iret (pc := 55) d_md_fact_55 rfl (by rw [hr0]; unfold m_fact; rw [if_neg (fun z => hw z.2.2)]; exact ⟨rfl, rfl, rfl⟩)
def esF (j : Nat) : Nat → Nat → (Nat → Int32) → (Nat → Int32)
  | 0, _, f => f
  | g + 1, k, f => esF j g (k + 1) (upd f (8 * j + k) (f (8 * j + k + 1)))
def m_event (s : Int32) (M : mR) : Int32 × mR := if (nI 0 ≤ s ∧ s ≤ nI 3) then if M.2.2.2.1.1 (nT s) = true then if M.2.2.2.2.1.2.2.2 (nT s) = 0 then m_F 3 M else m_E (M.2.2.2.2.1.2.2.1 (8 * nT s)) (M.1, M.2.1, M.2.2.1, M.2.2.2.1, (M.2.2.2.2.1.1, M.2.2.2.2.1.2.1, esF (nT s) (M.2.2.2.2.1.2.2.2 (nT s) - 1) 0 M.2.2.2.2.1.2.2.1, va_up M.2.2.2.2.1.2.2.2 (nT s) (M.2.2.2.2.1.2.2.2 (nT s) - 1)), M.2.2.2.2.2) else m_F 2 M else m_F 1 M
set_option maxHeartbeats 400000 in
set_option maxRecDepth 100000 in
theorem lp_md_event {l : Launch} {G : q_G} (htr : l.stackTraces = false) {h : q_H} {N : Nat} {A : mA} {L : mL} {S : mS} {C : mC} {W : mW} {T : mT} {Q : q_Q} {j : Nat} (hj : j < 4) (hW : W.2.2.2 j ≤ 7) {e : Int32} : ∀ (g k : Nat) (ev : Nat → Int32), k + g = W.2.2.2 j → (∀ ev2 k2, ev2 = esF j g k ev → q_Ev l G m_md_event 7 165 0 0 112 [some (.ref 42), some (.int (nI j)), some (.int e), some (.int (nI k2))] [] (md_put h (A, L, S, C, (W.1, W.2.1, ev2, W.2.2.2), T)) N Q) → q_Ev l G m_md_event 7 165 0 0 72 [some (.ref (42)), some (.int (nI (j))), some (.int (e)), some (.int (nI (k)))] [] (md_put h (((A.1), (A.2.1), (A.2.2.1), (A.2.2.2)), ((L.1), (L.2.1), (L.2.2.1), (L.2.2.2)), ((S.1), (S.2.1), (S.2.2.1), (S.2.2.2.1), (S.2.2.2.2)), ((C.1), (C.2.1), (C.2.2.1), (C.2.2.2.1), (C.2.2.2.2)), ((W.1), (W.2.1), ev, (W.2.2.2)), ((T.1), (T.2.1), (T.2.2.1), (T.2.2.2.1), (T.2.2.2.2)))) N Q := by
  intro g
  induction g with
  | zero =>
    intro k ev he
    intro kk
    refine e_iload_n (pc := 72) d_md_event_72 rfl ?_
    refine e_aload_n (pc := 73) d_md_event_73 rfl ?_
    refine e_get (pc := 74) d_md_event_74 fl_md_66 md_g42 rfl ?_
    refine e_iload_n (pc := 77) d_md_event_77 rfl ?_
    refine e_naldN (pc := 78) d_md_event_78 (f := (W.2.2.2)) md_g60 (by omega) (by decide) ?_
    refine e_icmp_geN (pc := 79) (tgt := 112) d_md_event_79 (by decide) (by omega) (by omega) (fun c => ?_) (fun c => ?_)
    · exact kk ev k rfl
    · omega
  | succ g ih =>
    intro k ev he
    intro kk
    refine e_iload_n (pc := 72) d_md_event_72 rfl ?_
    refine e_aload_n (pc := 73) d_md_event_73 rfl ?_
    refine e_get (pc := 74) d_md_event_74 fl_md_66 md_g42 rfl ?_
    refine e_iload_n (pc := 77) d_md_event_77 rfl ?_
    refine e_naldN (pc := 78) d_md_event_78 (f := (W.2.2.2)) md_g60 (by omega) (by decide) ?_
    refine e_icmp_geN (pc := 79) (tgt := 112) d_md_event_79 (by decide) (by omega) (by omega) (fun c => ?_) (fun c => ?_)
    · omega
    · refine e_aload_n (pc := 82) d_md_event_82 rfl ?_
      refine e_get (pc := 83) d_md_event_83 fl_md_63 md_g42 rfl ?_
      refine e_bipush (pc := 86) d_md_event_86 (v := (nI (8))) rfl ?_
      refine e_iload_n (pc := 88) d_md_event_88 rfl ?_
      refine e_imulN (pc := 89) d_md_event_89  ?_
      refine e_iload_n (pc := 90) d_md_event_90 rfl ?_
      refine e_iaddN (pc := 91) d_md_event_91  ?_
      refine e_aload_n (pc := 92) d_md_event_92 rfl ?_
      refine e_get (pc := 93) d_md_event_93 fl_md_63 md_g42 rfl ?_
      refine e_bipush (pc := 96) d_md_event_96 (v := (nI (8))) rfl ?_
      refine e_iload_n (pc := 98) d_md_event_98 rfl ?_
      refine e_imulN (pc := 99) d_md_event_99  ?_
      refine e_iload_n (pc := 100) d_md_event_100 rfl ?_
      refine e_iaddN (pc := 101) d_md_event_101  ?_
      refine e_iconst (pc := 102) d_md_event_102 (v := (nI (1))) rfl ?_
      refine e_iaddN (pc := 103) d_md_event_103  ?_
      refine e_ialdN (pc := 104) d_md_event_104 (f := ev) md_g59 (by omega) (by decide) ?_
      refine e_iastN (pc := 105) d_md_event_105 md_g59 (by omega) (by decide) ?_
      rw [md_u59]
      show q_Ev l G m_md_event 7 165 0 0 106 [some (.ref (42)), some (.int (nI (j))), some (.int (e)), some (.int (nI (k)))] [] (md_put h (((A.1), (A.2.1), (A.2.2.1), (A.2.2.2)), ((L.1), (L.2.1), (L.2.2.1), (L.2.2.2)), ((S.1), (S.2.1), (S.2.2.1), (S.2.2.2.1), (S.2.2.2.2)), ((C.1), (C.2.1), (C.2.2.1), (C.2.2.2.1), (C.2.2.2.2)), ((W.1), (W.2.1), (upd (ev) (((8) * (j)) + (k)) (((ev) ((((8) * (j)) + (k)) + (1))))), (W.2.2.2)), ((T.1), (T.2.1), (T.2.2.1), (T.2.2.2.1), (T.2.2.2.2)))) N _
      refine e_iincN (pc := 106) d_md_event_106 (a := k) (b := 1) rfl rfl (by decide) ?_
      refine e_goto (pc := 109) (tgt := 72) d_md_event_109 (by decide) ?_
      exact ih (k + 1) _ (by omega) kk
set_option maxHeartbeats 400000 in
set_option maxRecDepth 100000 in
theorem c_md_event {l : Launch} {G : q_G} (htr : l.stackTraces = false) {h : q_H} {N : Nat} {fa : Int32} {ld : Option Nat} {ep : Nat} {tm : Int32} {L : mL} {S : mS} {C : mC} {W : mW} {T : mT} {s : Int32} {n : Nat} (hn : n ≤ 72) (hO : mOK n ((fa, ld, ep, tm), L, S, C, W, T)) : q_Met l G m_md_event 7 165 0 0 [.ref (42), .int (s)] (md_put h ((fa, ld, ep, tm), L, S, C, W, T)) N (q_To (some (.int (m_event s ((fa, ld, ep, tm), L, S, C, W, T)).1)) (md_put h (m_event s ((fa, ld, ep, tm), L, S, C, W, T)).2) N) := by
  obtain ⟨r0, hr0⟩ : ∃ r, r = m_event s ((fa, ld, ep, tm), L, S, C, W, T) := ⟨_, rfl⟩
  rw [← hr0]
  refine q_Met.mk htr (by decide +kernel) rfl (List.forall_mem_cons.mpr ⟨rfl, List.forall_mem_cons.mpr ⟨rfl, fun _ h => nomatch h⟩⟩) (Nat.le_of_ble_eq_true rfl) ?_
  refine e_aload_n (pc := 0) d_md_event_0 rfl ?_
  refine e_iconst (pc := 1) d_md_event_1 (v := (nI (0))) rfl ?_
  refine e_putE (pc := 2) d_md_event_2 (fs2 := [.int (nI (0)), .ref (43), .ref (44), .ref (45), .ref (46), .ref (47), .ref (48), .ref (49), .ref (50), .ref (51), .int (ldI ld), .int (nI (ep)), .int (tm), .ref (52), .ref (53), .ref (54), .ref (55), .ref (56), .ref (57), .ref (58), .ref (59), .ref (60), .ref (61), .ref (62), .ref (63), .ref (64), .ref (65)]) fl_md_84 md_g42 (Nat.le_of_ble_eq_true rfl) (fun _ => rfl) (fun _ => rfl) rfl ?_
  rw [md_u42 (ld := ld)]
  show q_Ev l G m_md_event 7 165 0 0 5 [some (.ref (42)), some (.int (s)), none, none] [] (md_put h (((nI (0)), ld, (ep), (tm)), ((L.1), (L.2.1), (L.2.2.1), (L.2.2.2)), ((S.1), (S.2.1), (S.2.2.1), (S.2.2.2.1), (S.2.2.2.2)), ((C.1), (C.2.1), (C.2.2.1), (C.2.2.2.1), (C.2.2.2.2)), ((W.1), (W.2.1), (W.2.2.1), (W.2.2.2)), ((T.1), (T.2.1), (T.2.2.1), (T.2.2.2.1), (T.2.2.2.2)))) N _
  refine e_aload_n (pc := 5) d_md_event_5 rfl ?_
  refine e_iload_n (pc := 6) d_md_event_6 rfl ?_
  refine e_iconst (pc := 7) d_md_event_7 (v := (nI (4))) rfl ?_
  refine e_callV (As := [.int (s), .int (nI (4))]) (st := []) (cc2 := 0) (ss2 := 0) (pc := 8) d_md_event_8 rfl cv_md_145 md_g42 rfl (c_md_out htr) rfl (by decide) (by decide) (by omega) (by omega) (Nat.le_of_ble_eq_true rfl) (fun _ _ _ hq => nomatch hq.1) (fun r h2 N2 hq => ?_)
  obtain ⟨hr, e1, e2⟩ := hq
  cases hr
  rw [e1, e2]
  clear e1 e2
  show q_Ev l G m_md_event 7 165 0 0 11 [some (.ref (42)), some (.int (s)), none, none] [.int (bI (decide (s < 0 ∨ ¬ s < nI 4)))] (md_put h (((nI (0)), ld, (ep), (tm)), ((L.1), (L.2.1), (L.2.2.1), (L.2.2.2)), ((S.1), (S.2.1), (S.2.2.1), (S.2.2.2.1), (S.2.2.2.2)), ((C.1), (C.2.1), (C.2.2.1), (C.2.2.2.1), (C.2.2.2.2)), ((W.1), (W.2.1), (W.2.2.1), (W.2.2.2)), ((T.1), (T.2.1), (T.2.2.1), (T.2.2.2.1), (T.2.2.2.2)))) N _
  refine e_ifB_eq (pc := 11) (tgt := 20) d_md_event_11 (by decide) (fun co => ?_) (fun co => ?_)
  · have hs := out_f (n := 3) (by decide) co
    have hs1 := hs
    obtain ⟨j, hj, ej⟩ := q_ofL (n := 3) (by decide) hs
    subst ej
    have h8 : W.2.2.2 j ≤ 8 := hO.2.2.1 j hj
    refine e_aload_n (pc := 20) d_md_event_20 rfl ?_
    refine e_get (pc := 21) d_md_event_21 fl_md_42 md_g42 rfl ?_
    refine e_iload_n (pc := 24) d_md_event_24 rfl ?_
    refine e_zaldN (pc := 25) d_md_event_25 (f := (C.1)) md_g52 (by omega) (by decide) ?_
    refine e_ifB_ne (pc := 26) (tgt := 35) d_md_event_26 (by decide) (fun c1 => ?_) (fun c1 => ?_)
    · refine e_aload_n (pc := 35) d_md_event_35 rfl ?_
      refine e_get (pc := 36) d_md_event_36 fl_md_66 md_g42 rfl ?_
      refine e_iload_n (pc := 39) d_md_event_39 rfl ?_
      refine e_naldN (pc := 40) d_md_event_40 (f := (W.2.2.2)) md_g60 (by omega) (by decide) ?_
      refine e_if_neN (pc := 41) (tgt := 50) d_md_event_41 (by decide) (by omega) (fun c2 => ?_) (fun c2 => ?_)
      · have eW : va_up W.2.2.2 j (W.2.2.2 j - 1) j = W.2.2.2 j - 1 := by simp [va_up]
        refine e_aload_n (pc := 50) d_md_event_50 rfl ?_
        refine e_get (pc := 51) d_md_event_51 fl_md_63 md_g42 rfl ?_
        refine e_bipush (pc := 54) d_md_event_54 (v := (nI (8))) rfl ?_
        refine e_iload_n (pc := 56) d_md_event_56 rfl ?_
        refine e_imulN (pc := 57) d_md_event_57  ?_
        refine e_ialdN (pc := 58) d_md_event_58 (f := (W.2.2.1)) md_g59 (by omega) (by decide) ?_
        refine e_istore_n (pc := 59) d_md_event_59 (by decide) ?_
        refine e_aload_n (pc := 60) d_md_event_60 rfl ?_
        refine e_get (pc := 61) d_md_event_61 fl_md_66 md_g42 rfl ?_
        refine e_iload_n (pc := 64) d_md_event_64 rfl ?_
        refine e_dup2 (pc := 65) d_md_event_65 rfl rfl ?_
        refine e_naldN (pc := 66) d_md_event_66 (f := (W.2.2.2)) md_g60 (by omega) (by decide) ?_
        refine e_iconst (pc := 67) d_md_event_67 (v := (nI (1))) rfl ?_
        refine e_isubN (pc := 68) d_md_event_68 (by omega) ?_
        refine e_nastN (pc := 69) d_md_event_69 (f := (W.2.2.2)) md_g60 (by omega) (by decide) ?_
        rw [md_u60]
        show q_Ev l G m_md_event 7 165 0 0 70 [some (.ref (42)), some (.int (nI (j))), some (.int (((W.2.2.1)) ((8) * (j)))), none] [] (md_put h (((nI (0)), ld, (ep), (tm)), ((L.1), (L.2.1), (L.2.2.1), (L.2.2.2)), ((S.1), (S.2.1), (S.2.2.1), (S.2.2.2.1), (S.2.2.2.2)), ((C.1), (C.2.1), (C.2.2.1), (C.2.2.2.1), (C.2.2.2.2)), ((W.1), (W.2.1), (W.2.2.1), (va_up ((W.2.2.2)) (j) ((((W.2.2.2)) (j)) - (1)))), ((T.1), (T.2.1), (T.2.2.1), (T.2.2.2.1), (T.2.2.2.2)))) N _
        refine e_iconst (pc := 70) d_md_event_70 (v := (nI (0))) rfl ?_
        refine e_istore_n (pc := 71) d_md_event_71 (by decide) ?_
        refine lp_md_event (A := (nI 0, ld, ep, tm)) (L := L) (S := S) (C := C) (T := T) (W := (W.1, W.2.1, W.2.2.1, va_up W.2.2.2 j (W.2.2.2 j - 1))) htr hj (by show va_up W.2.2.2 j (W.2.2.2 j - 1) j ≤ 7; rw [eW]; omega) (W.2.2.2 j - 1) 0 W.2.2.1 (by show 0 + (W.2.2.2 j - 1) = va_up W.2.2.2 j (W.2.2.2 j - 1) j; rw [eW]; omega) (fun ev2 k2 e2 => ?_)
        show q_Ev l G m_md_event 7 165 0 0 112 [some (.ref (42)), some (.int (nI (j))), some (.int (((W.2.2.1)) ((8) * (j)))), some (.int (nI (k2)))] [] (md_put h (((nI (0)), ld, ep, tm), ((L.1), (L.2.1), (L.2.2.1), (L.2.2.2)), ((S.1), (S.2.1), (S.2.2.1), (S.2.2.2.1), (S.2.2.2.2)), ((C.1), (C.2.1), (C.2.2.1), (C.2.2.2.1), (C.2.2.2.2)), ((W.1), (W.2.1), ev2, (va_up W.2.2.2 j (W.2.2.2 j - 1))), ((T.1), (T.2.1), (T.2.2.1), (T.2.2.2.1), (T.2.2.2.2)))) N _
        have hW2 : ∀ i, i < 4 → va_up W.2.2.2 j (W.2.2.2 j - 1) i ≤ 8 := by
          intro i hi
          by_cases c : i = j
          · subst c; rw [eW]; omega
          · simp only [va_up, if_neg c]; exact hO.2.2.1 i hi
        refine e_aload_n (pc := 112) d_md_event_112 rfl ?_
        refine e_iload_n (pc := 113) d_md_event_113 rfl ?_
        refine e_callV (As := [.int (((W.2.2.1)) ((8) * (j)))]) (st := []) (cc2 := 0) (ss2 := 0) (pc := 114) d_md_event_114 rfl cv_md_155 md_g42 rfl (c_md_end htr (show _ ≤ 76 by omega) ⟨hO.1, hO.2.1, hW2, hO.2.2.2⟩) rfl (by decide) (by decide) (by omega) (by omega) (Nat.le_of_ble_eq_true rfl) (fun _ _ _ hq => nomatch hq.1) (fun r h2 N2 hq => ?_)
        obtain ⟨hr, e1, e2⟩ := hq
        cases hr
        rw [e1, e2]
        clear e1 e2
        show q_Ev l G m_md_event 7 165 0 0 117 [some (.ref (42)), some (.int (nI (j))), some (.int (((W.2.2.1)) ((8) * (j)))), some (.int (nI (k2)))] [.int ((W.2.2.1) (8 * j))] _ N _
        exact e_iret (pc := 117) d_md_event_117 rfl (by rw [hr0]; unfold m_event; rw [if_pos hs1, nT_n (by omega), if_pos c1, if_neg c2]; exact ⟨rfl, by rw [e2]; rfl, rfl⟩)
      · refine e_aload_n (pc := 44) d_md_event_44 rfl ?_
        refine e_iconst (pc := 45) d_md_event_45 (v := (nI (3))) rfl ?_
        refine e_callV (As := [.int (nI (3))]) (st := []) (cc2 := 0) (ss2 := 0) (pc := 46) d_md_event_46 rfl cv_md_149 md_g42 rfl (c_md_fail htr) rfl (by decide) (by decide) (by omega) (by omega) (Nat.le_of_ble_eq_true rfl) (fun _ _ _ hq => nomatch hq.1) (fun r h2 N2 hq => ?_)
        obtain ⟨hr, e1, e2⟩ := hq
        cases hr
        rw [e1, e2]
        clear e1 e2
        show q_Ev l G m_md_event 7 165 0 0 49 [some (.ref (42)), some (.int (nI (j))), none, none] [.int (nI (0))] _ N _
        exact e_iret (pc := 49) d_md_event_49 rfl (by rw [hr0]; unfold m_event; rw [if_pos hs1, nT_n (by omega), if_pos c1, if_pos c2]; exact ⟨rfl, rfl, rfl⟩)
    · refine e_aload_n (pc := 29) d_md_event_29 rfl ?_
      refine e_iconst (pc := 30) d_md_event_30 (v := (nI (2))) rfl ?_
      refine e_callV (As := [.int (nI (2))]) (st := []) (cc2 := 0) (ss2 := 0) (pc := 31) d_md_event_31 rfl cv_md_149 md_g42 rfl (c_md_fail htr) rfl (by decide) (by decide) (by omega) (by omega) (Nat.le_of_ble_eq_true rfl) (fun _ _ _ hq => nomatch hq.1) (fun r h2 N2 hq => ?_)
      obtain ⟨hr, e1, e2⟩ := hq
      cases hr
      rw [e1, e2]
      clear e1 e2
      show q_Ev l G m_md_event 7 165 0 0 34 [some (.ref (42)), some (.int (nI (j))), none, none] [.int (nI (0))] _ N _
      exact e_iret (pc := 34) d_md_event_34 rfl (by rw [hr0]; unfold m_event; rw [if_pos hs1, nT_n (by omega), if_neg (fun z => absurd (c1.symm.trans z) (by decide))]; exact ⟨rfl, rfl, rfl⟩)
  · have hs := out_t (n := 3) (by decide) co
    refine e_aload_n (pc := 14) d_md_event_14 rfl ?_
    refine e_iconst (pc := 15) d_md_event_15 (v := (nI (1))) rfl ?_
    refine e_callV (As := [.int (nI (1))]) (st := []) (cc2 := 0) (ss2 := 0) (pc := 16) d_md_event_16 rfl cv_md_149 md_g42 rfl (c_md_fail htr) rfl (by decide) (by decide) (by omega) (by omega) (Nat.le_of_ble_eq_true rfl) (fun _ _ _ hq => nomatch hq.1) (fun r h2 N2 hq => ?_)
    obtain ⟨hr, e1, e2⟩ := hq
    cases hr
    rw [e1, e2]
    clear e1 e2
    show q_Ev l G m_md_event 7 165 0 0 19 [some (.ref (42)), some (.int (s)), none, none] [.int (nI (0))] _ N _
    exact e_iret (pc := 19) d_md_event_19 rfl (by rw [hr0]; unfold m_event; rw [if_neg hs]; exact ⟨rfl, rfl, rfl⟩)
