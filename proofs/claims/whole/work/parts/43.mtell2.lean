set_option maxHeartbeats 4000000 in
set_option maxRecDepth 100000 in
theorem lp_md_tell1 {l : Launch} {G : q_G} (htr : l.stackTraces = false) {h : q_H} {N : Nat} {A : mA} {L : mL} {S : mS} {C : mC} {T : mT} {srv : Option Nat} (hsv : ∀ i, srv = some i → i < 3) (hC : mCo C) {p : Nat} (hp : p < 259) : ∀ (g k : Nat) (W : mW) (x5 x6 x7 : Option Value), k + g = 4 ∧ mWo W → q_Ev l G m_md_tell 1 22 0 0 3 [some (.ref 42), some (.int (ldI srv)), some (.int (nI p)), some (.int (nI 1)), some (.int (nI k)), x5, x6, x7] [] (md_put h (((A.1), (A.2.1), (A.2.2.1), (A.2.2.2)), ((L.1), (L.2.1), (L.2.2.1), (L.2.2.2)), ((S.1), (S.2.1), (S.2.2.1), (S.2.2.2.1), (S.2.2.2.2)), ((C.1), (C.2.1), (C.2.2.1), (C.2.2.2.1), (C.2.2.2.2)), ((W.1), (W.2.1), (W.2.2.1), (W.2.2.2)), ((T.1), (T.2.1), (T.2.2.1), (T.2.2.2.1), (T.2.2.2.2)))) N (q_To (none) (md_put h (A, L, S, C, tlF srv C p 1 g k W, T)) N) := by
  intro g
  induction g with
  | zero =>
    intro k W x5 x6 x7 he
    have hkn : k = 4 := by omega
    subst hkn
    refine e_iload (pc := 3) d_md_tell_3 rfl ?_
    refine e_iconst (pc := 5) d_md_tell_5 (v := (nI (4))) rfl ?_
    refine e_icmp_geN (pc := 6) (tgt := 180) d_md_tell_6 (by decide) (by omega) (by omega) (fun c => ?_) (fun c => ?_)
    · exact e_vret (pc := 180) d_md_tell_180 rfl (⟨rfl, rfl, rfl⟩)
    · omega
  | succ g ih =>
    intro k W x5 x6 x7 he
    obtain ⟨he, hW⟩ := he
    refine e_iload (pc := 3) d_md_tell_3 rfl ?_
    refine e_iconst (pc := 5) d_md_tell_5 (v := (nI (4))) rfl ?_
    refine e_icmp_geN (pc := 6) (tgt := 180) d_md_tell_6 (by decide) (by omega) (by omega) (fun c => ?_) (fun c => ?_)
    · omega
    · have hk4 : k < 4 := by omega
      have hat := hC k hk4
      refine e_aload_n (pc := 9) d_md_tell_9 rfl ?_
      refine e_get (pc := 10) d_md_tell_10 fl_md_42 md_g42 rfl ?_
      refine e_iload (pc := 13) d_md_tell_13 rfl ?_
      refine e_zaldN (pc := 15) d_md_tell_15 (f := (C.1)) md_g52 (by omega) (by decide) ?_
      refine e_ifB_eq (pc := 16) (tgt := 174) d_md_tell_16 (by decide) (fun c1 => ?_) (fun c1 => ?_)
      · have e1 : tl1 srv C p 1 k W = W := by rw [tl1, if_neg (fun z => by rw [c1] at z; exact nomatch z.1)]
        refine e_iincN (pc := 174) d_md_tell_174 (a := k) (b := 1) rfl rfl (by decide) ?_
        refine e_goto (pc := 177) (tgt := 3) d_md_tell_177 (by decide) ?_
        simp only [tlF]
        rw [e1]
        exact ih (k + 1) W x5 x6 x7 ⟨by omega, hW⟩
      · refine e_aload_n (pc := 19) d_md_tell_19 rfl ?_
        refine e_get (pc := 20) d_md_tell_20 fl_md_48 md_g42 rfl ?_
        refine e_iload (pc := 23) d_md_tell_23 rfl ?_
        refine e_naldN (pc := 25) d_md_tell_25 (f := (C.2.2.1)) md_g54 (by omega) (by decide) ?_
        refine e_iload_n (pc := 26) d_md_tell_26 rfl ?_
        refine e_icmp_eq (pc := 27) (tgt := 33) d_md_tell_27 (by decide) (fun c2 => ?_) (fun c2 => ?_)
        · have e1 : tl1 srv C p 1 k W = tW p 1 k W := by rw [tl1, if_pos ⟨c1, (ldI_eq hsv hat).mp c2⟩]
          simp only [tlF]
          rw [e1]
          unfold tW
          have hoA := tA_o (p := p) (w := 1) (s := k) hW
          have hoW := tW_o (p := p) (w := 1) (s := k) hW
          refine e_sipush (pc := 33) d_md_tell_33 (v := (nI (259))) rfl ?_
          refine e_iload (pc := 36) d_md_tell_36 rfl ?_
          refine e_imulN (pc := 38) d_md_tell_38  ?_
          refine e_iload_n (pc := 39) d_md_tell_39 rfl ?_
          refine e_iaddN (pc := 40) d_md_tell_40  ?_
          refine e_istore (pc := 41) d_md_tell_41 (by decide) ?_
          refine e_aload_n (pc := 43) d_md_tell_43 rfl ?_
          refine e_get (pc := 44) d_md_tell_44 fl_md_57 md_g42 rfl ?_
          refine e_iload (pc := 47) d_md_tell_47 rfl ?_
          refine e_zaldN (pc := 49) d_md_tell_49 (f := (W.1)) md_g57 (by omega) (by decide) ?_
          refine e_istore (pc := 50) d_md_tell_50 (by decide) ?_
          refine e_iload (pc := 52) d_md_tell_52 rfl ?_
          refine e_ifB_eq (pc := 54) (tgt := 70) d_md_tell_54 (by decide) (fun c3 => ?_) (fun c3 => ?_)
          · refine e_iload_n (pc := 70) d_md_tell_70 rfl ?_
            refine e_iconst (pc := 71) d_md_tell_71 (v := (nI (3))) rfl ?_
            refine e_icmp_neN (pc := 72) (tgt := 101) d_md_tell_72 (by decide) (by decide) (by decide) (fun _ => ?_) (fun c => absurd c (by decide))
            refine e_iload_n (pc := 101) d_md_tell_101 rfl ?_
            refine e_iconst (pc := 102) d_md_tell_102 (v := (nI (3))) rfl ?_
            have eA : tA p 1 k W = W := by rw [tA, if_neg (by rw [c3]; decide), if_neg (fun z => by exact absurd z.1 (by decide))]
            rw [eA]
            rw [eA] at hoA
            refine e_icmp_neN (pc := 103) (tgt := 114) d_md_tell_103 (by decide) (by decide) (by decide) (fun _ => ?_) (fun c => absurd c (by decide))
            refine e_aload_n (pc := 114) d_md_tell_114 rfl ?_
            refine e_get (pc := 115) d_md_tell_115 fl_md_57 md_g42 rfl ?_
            refine e_iload (pc := 118) d_md_tell_118 rfl ?_
            refine e_iconst (pc := 120) d_md_tell_120 (v := (bI (false))) rfl ?_
            refine e_zastN (pc := 121) d_md_tell_121 (f := (W.1)) md_g57 (by omega) (by decide) ?_
            rw [md_u57]
            show q_Ev l G m_md_tell 1 22 0 0 122 [some (.ref (42)), some (.int (ldI srv)), some (.int (nI (p))), some (.int (nI (1))), some (.int (nI (k))), some (.int (nI (((259) * (k)) + (p)))), some (.int (bI (((W.1)) (((259) * (k)) + (p))))), x7] [] (md_put h (((A.1), (A.2.1), (A.2.2.1), (A.2.2.2)), ((L.1), (L.2.1), (L.2.2.1), (L.2.2.2)), ((S.1), (S.2.1), (S.2.2.1), (S.2.2.2.1), (S.2.2.2.2)), ((C.1), (C.2.1), (C.2.2.1), (C.2.2.2.1), (C.2.2.2.2)), ((va_up ((W.1)) (((259) * (k)) + (p)) (false)), (W.2.1), (W.2.2.1), (W.2.2.2)), ((T.1), (T.2.1), (T.2.2.1), (T.2.2.2.1), (T.2.2.2.2)))) N _
            show q_Ev l G m_md_tell 1 22 0 0 122 [some (.ref (42)), some (.int (ldI srv)), some (.int (nI (p))), some (.int (nI (1))), some (.int (nI (k))), some (.int (nI (((259) * (k)) + (p)))), some (.int (bI (((W.1)) (((259) * (k)) + (p))))), x7] [] (md_put h (((A.1), (A.2.1), (A.2.2.1), (A.2.2.2)), ((L.1), (L.2.1), (L.2.2.1), (L.2.2.2)), ((S.1), (S.2.1), (S.2.2.1), (S.2.2.2.1), (S.2.2.2.2)), ((C.1), (C.2.1), (C.2.2.1), (C.2.2.2.1), (C.2.2.2.2)), (((tB p 1 k W).1), ((tB p 1 k W).2.1), ((tB p 1 k W).2.2.1), ((tB p 1 k W).2.2.2)), ((T.1), (T.2.1), (T.2.2.1), (T.2.2.2.1), (T.2.2.2.2)))) N _
            have hoB : mWo (tB p 1 k W) := fun j hj => hoA j hj
            refine e_sipush (pc := 122) d_md_tell_122 (v := (nI (259))) rfl ?_
            refine e_iload (pc := 125) d_md_tell_125 rfl ?_
            refine e_imulN (pc := 127) d_md_tell_127  ?_
            refine e_aload_n (pc := 128) d_md_tell_128 rfl ?_
            refine e_iload_n (pc := 129) d_md_tell_129 rfl ?_
            refine e_callV (As := [.int (nI (p))]) (st := [.int (nI ((259) * (k)))]) (cc2 := 0) (ss2 := 0) (pc := 130) d_md_tell_130 rfl cv_md_87 md_g42 rfl (c_md_parent htr hp) rfl (by decide) (by decide) (by omega) (by omega) (Nat.le_of_ble_eq_true rfl) (fun _ _ _ hq => nomatch hq.1) (fun r h2 N2 hq => ?_)
            obtain ⟨hr, e1, e2⟩ := hq
            cases hr
            rw [e1, e2]
            clear e1 e2
            show q_Ev l G m_md_tell 1 22 0 0 133 [some (.ref (42)), some (.int (ldI srv)), some (.int (nI (p))), some (.int (nI (1))), some (.int (nI (k))), some (.int (nI (((259) * (k)) + (p)))), some (.int (bI (((W.1)) (((259) * (k)) + (p))))), x7] [.int (nI ((p - 1) / 6)), .int (nI ((259) * (k)))] (md_put h (((A.1), (A.2.1), (A.2.2.1), (A.2.2.2)), ((L.1), (L.2.1), (L.2.2.1), (L.2.2.2)), ((S.1), (S.2.1), (S.2.2.1), (S.2.2.2.1), (S.2.2.2.2)), ((C.1), (C.2.1), (C.2.2.1), (C.2.2.2.1), (C.2.2.2.2)), (((tB p 1 k W).1), ((tB p 1 k W).2.1), ((tB p 1 k W).2.2.1), ((tB p 1 k W).2.2.2)), ((T.1), (T.2.1), (T.2.2.1), (T.2.2.2.1), (T.2.2.2.2)))) N _
            refine e_iaddN (pc := 133) d_md_tell_133  ?_
            refine e_istore (pc := 134) d_md_tell_134 (by decide) ?_
            refine e_iload_n (pc := 136) d_md_tell_136 rfl ?_
            refine e_iconst (pc := 137) d_md_tell_137 (v := (nI (2))) rfl ?_
            refine e_icmp_eqN (pc := 138) (tgt := 174) d_md_tell_138 (by decide) (by decide) (by decide) (fun c => absurd c (by decide)) (fun _ => ?_)
            refine e_aload_n (pc := 141) d_md_tell_141 rfl ?_
            refine e_get (pc := 142) d_md_tell_142 fl_md_60 md_g42 rfl ?_
            refine e_iload (pc := 145) d_md_tell_145 rfl ?_
            refine e_zaldN (pc := 147) d_md_tell_147 (f := ((tB p 1 k W).2.1)) md_g58 (by omega) (by decide) ?_
            refine e_ifB_eq (pc := 148) (tgt := 174) d_md_tell_148 (by decide) (fun c5 => ?_) (fun c5 => ?_)
            · have eC : tC p 1 k (tB p 1 k W) = (tB p 1 k W) := by rw [tC, if_neg (fun z => by rw [show _ = true from z.2] at c5; exact nomatch c5)]
              rw [eC]
              refine e_iincN (pc := 174) d_md_tell_174 (a := k) (b := 1) rfl rfl (by decide) ?_
              refine e_goto (pc := 177) (tgt := 3) d_md_tell_177 (by decide) ?_
              exact ih (k + 1) _ _ _ _ ⟨by omega, hoB⟩
            · refine e_aload_n (pc := 151) d_md_tell_151 rfl ?_
              refine e_iload (pc := 152) d_md_tell_152 rfl ?_
              refine e_sipush (pc := 154) d_md_tell_154 (v := (nI (1200))) rfl ?_
              refine e_aload_n (pc := 157) d_md_tell_157 rfl ?_
              refine e_iload_n (pc := 158) d_md_tell_158 rfl ?_
              refine e_callV (As := [.int (nI (p))]) (st := [.int (nI (1200)), .int (nI (k)), .ref (42)]) (cc2 := 0) (ss2 := 0) (pc := 159) d_md_tell_159 rfl cv_md_87 md_g42 rfl (c_md_parent htr hp) rfl (by decide) (by decide) (by omega) (by omega) (Nat.le_of_ble_eq_true rfl) (fun _ _ _ hq => nomatch hq.1) (fun r h2 N2 hq => ?_)
              obtain ⟨hr, e1, e2⟩ := hq
              cases hr
              rw [e1, e2]
              clear e1 e2
              show q_Ev l G m_md_tell 1 22 0 0 162 [some (.ref (42)), some (.int (ldI srv)), some (.int (nI (p))), some (.int (nI (1))), some (.int (nI (k))), some (.int (nI (((259) * (k)) + (p)))), some (.int (bI (((W.1)) (((259) * (k)) + (p))))), some (.int (nI (((259) * (k)) + ((p - 1) / 6))))] [.int (nI ((p - 1) / 6)), .int (nI (1200)), .int (nI (k)), .ref (42)] (md_put h (((A.1), (A.2.1), (A.2.2.1), (A.2.2.2)), ((L.1), (L.2.1), (L.2.2.1), (L.2.2.2)), ((S.1), (S.2.1), (S.2.2.1), (S.2.2.2.1), (S.2.2.2.2)), ((C.1), (C.2.1), (C.2.2.1), (C.2.2.2.1), (C.2.2.2.2)), (((tB p 1 k W).1), ((tB p 1 k W).2.1), ((tB p 1 k W).2.2.1), ((tB p 1 k W).2.2.2)), ((T.1), (T.2.1), (T.2.2.1), (T.2.2.2.1), (T.2.2.2.2)))) N _
              refine e_iaddN (pc := 162) d_md_tell_162  ?_
              refine e_callV (As := [.int (nI (k)), .int (nI ((1200) + ((p - 1) / 6)))]) (st := []) (cc2 := 0) (ss2 := 0) (pc := 163) d_md_tell_163 rfl cv_md_102 md_g42 rfl (c_md_put htr hk4 hoB) rfl (by decide) (by decide) (by omega) (by omega) (Nat.le_of_ble_eq_true rfl) (fun _ _ _ hq => nomatch hq.1) (fun r h2 N2 hq => ?_)
              obtain ⟨hr, e1, e2⟩ := hq
              cases hr
              rw [e1, e2]
              clear e1 e2
              show q_Ev l G m_md_tell 1 22 0 0 166 [some (.ref (42)), some (.int (ldI srv)), some (.int (nI (p))), some (.int (nI (1))), some (.int (nI (k))), some (.int (nI (((259) * (k)) + (p)))), some (.int (bI (((W.1)) (((259) * (k)) + (p))))), some (.int (nI (((259) * (k)) + ((p - 1) / 6))))] [] _ N _
              show q_Ev l G m_md_tell 1 22 0 0 166 [some (.ref (42)), some (.int (ldI srv)), some (.int (nI (p))), some (.int (nI (1))), some (.int (nI (k))), some (.int (nI (((259) * (k)) + (p)))), some (.int (bI (((W.1)) (((259) * (k)) + (p))))), some (.int (nI (((259) * (k)) + ((p - 1) / 6))))] [] (md_put h (((A.1), (A.2.1), (A.2.2.1), (A.2.2.2)), ((L.1), (L.2.1), (L.2.2.1), (L.2.2.2)), ((S.1), (S.2.1), (S.2.2.1), (S.2.2.2.1), (S.2.2.2.2)), ((C.1), (C.2.1), (C.2.2.1), (C.2.2.2.1), (C.2.2.2.2)), (((pW k (nI (1200 + (p - 1) / 6)) (tB p 1 k W)).1), ((pW k (nI (1200 + (p - 1) / 6)) (tB p 1 k W)).2.1), ((pW k (nI (1200 + (p - 1) / 6)) (tB p 1 k W)).2.2.1), ((pW k (nI (1200 + (p - 1) / 6)) (tB p 1 k W)).2.2.2)), ((T.1), (T.2.1), (T.2.2.1), (T.2.2.2.1), (T.2.2.2.2)))) N _
              refine e_aload_n (pc := 166) d_md_tell_166 rfl ?_
              refine e_get (pc := 167) d_md_tell_167 fl_md_60 md_g42 rfl ?_
              refine e_iload (pc := 170) d_md_tell_170 rfl ?_
              refine e_iconst (pc := 172) d_md_tell_172 (v := (bI (false))) rfl ?_
              refine e_zastN (pc := 173) d_md_tell_173 (f := ((pW k (nI (1200 + (p - 1) / 6)) (tB p 1 k W)).2.1)) md_g58 (by omega) (by decide) ?_
              rw [md_u58]
              show q_Ev l G m_md_tell 1 22 0 0 174 [some (.ref (42)), some (.int (ldI srv)), some (.int (nI (p))), some (.int (nI (1))), some (.int (nI (k))), some (.int (nI (((259) * (k)) + (p)))), some (.int (bI (((W.1)) (((259) * (k)) + (p))))), some (.int (nI (((259) * (k)) + ((p - 1) / 6))))] [] (md_put h (((A.1), (A.2.1), (A.2.2.1), (A.2.2.2)), ((L.1), (L.2.1), (L.2.2.1), (L.2.2.2)), ((S.1), (S.2.1), (S.2.2.1), (S.2.2.2.1), (S.2.2.2.2)), ((C.1), (C.2.1), (C.2.2.1), (C.2.2.2.1), (C.2.2.2.2)), (((pW k (nI (1200 + (p - 1) / 6)) (tB p 1 k W)).1), (va_up (((pW k (nI (1200 + (p - 1) / 6)) (tB p 1 k W)).2.1)) (((259) * (k)) + ((p - 1) / 6)) (false)), ((pW k (nI (1200 + (p - 1) / 6)) (tB p 1 k W)).2.2.1), ((pW k (nI (1200 + (p - 1) / 6)) (tB p 1 k W)).2.2.2)), ((T.1), (T.2.1), (T.2.2.1), (T.2.2.2.1), (T.2.2.2.2)))) N _
              refine e_iincN (pc := 174) d_md_tell_174 (a := k) (b := 1) rfl rfl (by decide) ?_
              refine e_goto (pc := 177) (tgt := 3) d_md_tell_177 (by decide) ?_
              have eC : tC p 1 k (tB p 1 k W) = ((pW k (nI (1200 + (p - 1) / 6)) (tB p 1 k W)).1, va_up (pW k (nI (1200 + (p - 1) / 6)) (tB p 1 k W)).2.1 (259 * k + (p - 1) / 6) false, (pW k (nI (1200 + (p - 1) / 6)) (tB p 1 k W)).2.2) := by rw [tC, if_pos ⟨by decide, c5⟩]
              rw [eC]
              exact ih (k + 1) ((pW k (nI (1200 + (p - 1) / 6)) (tB p 1 k W)).1, va_up (pW k (nI (1200 + (p - 1) / 6)) (tB p 1 k W)).2.1 (259 * k + (p - 1) / 6) false, (pW k (nI (1200 + (p - 1) / 6)) (tB p 1 k W)).2.2) _ _ _ ⟨by omega, fun j hj => pW_o (s := k) (v := nI (1200 + (p - 1) / 6)) hoB j hj⟩
          · refine e_aload_n (pc := 57) d_md_tell_57 rfl ?_
            refine e_iload (pc := 58) d_md_tell_58 rfl ?_
            refine e_sipush (pc := 60) d_md_tell_60 (v := (nI (300))) rfl ?_
            refine e_iload_n (pc := 63) d_md_tell_63 rfl ?_
            refine e_imulN (pc := 64) d_md_tell_64  ?_
            refine e_iload_n (pc := 65) d_md_tell_65 rfl ?_
            refine e_iaddN (pc := 66) d_md_tell_66  ?_
            refine e_callV (As := [.int (nI (k)), .int (nI (((300) * (1)) + (p)))]) (st := []) (cc2 := 0) (ss2 := 0) (pc := 67) d_md_tell_67 rfl cv_md_102 md_g42 rfl (c_md_put htr hk4 hW) rfl (by decide) (by decide) (by omega) (by omega) (Nat.le_of_ble_eq_true rfl) (fun _ _ _ hq => nomatch hq.1) (fun r h2 N2 hq => ?_)
            obtain ⟨hr, e1, e2⟩ := hq
            cases hr
            rw [e1, e2]
            clear e1 e2
            show q_Ev l G m_md_tell 1 22 0 0 70 [some (.ref (42)), some (.int (ldI srv)), some (.int (nI (p))), some (.int (nI (1))), some (.int (nI (k))), some (.int (nI (((259) * (k)) + (p)))), some (.int (bI (((W.1)) (((259) * (k)) + (p))))), x7] [] _ N _
            show q_Ev l G m_md_tell 1 22 0 0 70 [some (.ref (42)), some (.int (ldI srv)), some (.int (nI (p))), some (.int (nI (1))), some (.int (nI (k))), some (.int (nI (((259) * (k)) + (p)))), some (.int (bI (((W.1)) (((259) * (k)) + (p))))), x7] [] (md_put h (((A.1), (A.2.1), (A.2.2.1), (A.2.2.2)), ((L.1), (L.2.1), (L.2.2.1), (L.2.2.2)), ((S.1), (S.2.1), (S.2.2.1), (S.2.2.2.1), (S.2.2.2.2)), ((C.1), (C.2.1), (C.2.2.1), (C.2.2.2.1), (C.2.2.2.2)), (((pW k (nI (300 * 1 + p)) W).1), ((pW k (nI (300 * 1 + p)) W).2.1), ((pW k (nI (300 * 1 + p)) W).2.2.1), ((pW k (nI (300 * 1 + p)) W).2.2.2)), ((T.1), (T.2.1), (T.2.2.1), (T.2.2.2.1), (T.2.2.2.2)))) N _
            refine e_iload_n (pc := 70) d_md_tell_70 rfl ?_
            refine e_iconst (pc := 71) d_md_tell_71 (v := (nI (3))) rfl ?_
            refine e_icmp_neN (pc := 72) (tgt := 101) d_md_tell_72 (by decide) (by decide) (by decide) (fun _ => ?_) (fun c => absurd c (by decide))
            refine e_iload_n (pc := 101) d_md_tell_101 rfl ?_
            refine e_iconst (pc := 102) d_md_tell_102 (v := (nI (3))) rfl ?_
            have eA : tA p 1 k W = (pW k (nI (300 * 1 + p)) W) := by rw [tA, if_pos c3]
            rw [eA]
            rw [eA] at hoA
            refine e_icmp_neN (pc := 103) (tgt := 114) d_md_tell_103 (by decide) (by decide) (by decide) (fun _ => ?_) (fun c => absurd c (by decide))
            refine e_aload_n (pc := 114) d_md_tell_114 rfl ?_
            refine e_get (pc := 115) d_md_tell_115 fl_md_57 md_g42 rfl ?_
            refine e_iload (pc := 118) d_md_tell_118 rfl ?_
            refine e_iconst (pc := 120) d_md_tell_120 (v := (bI (false))) rfl ?_
            refine e_zastN (pc := 121) d_md_tell_121 (f := ((pW k (nI (300 * 1 + p)) W).1)) md_g57 (by omega) (by decide) ?_
            rw [md_u57]
            show q_Ev l G m_md_tell 1 22 0 0 122 [some (.ref (42)), some (.int (ldI srv)), some (.int (nI (p))), some (.int (nI (1))), some (.int (nI (k))), some (.int (nI (((259) * (k)) + (p)))), some (.int (bI (((W.1)) (((259) * (k)) + (p))))), x7] [] (md_put h (((A.1), (A.2.1), (A.2.2.1), (A.2.2.2)), ((L.1), (L.2.1), (L.2.2.1), (L.2.2.2)), ((S.1), (S.2.1), (S.2.2.1), (S.2.2.2.1), (S.2.2.2.2)), ((C.1), (C.2.1), (C.2.2.1), (C.2.2.2.1), (C.2.2.2.2)), ((va_up (((pW k (nI (300 * 1 + p)) W).1)) (((259) * (k)) + (p)) (false)), ((pW k (nI (300 * 1 + p)) W).2.1), ((pW k (nI (300 * 1 + p)) W).2.2.1), ((pW k (nI (300 * 1 + p)) W).2.2.2)), ((T.1), (T.2.1), (T.2.2.1), (T.2.2.2.1), (T.2.2.2.2)))) N _
            show q_Ev l G m_md_tell 1 22 0 0 122 [some (.ref (42)), some (.int (ldI srv)), some (.int (nI (p))), some (.int (nI (1))), some (.int (nI (k))), some (.int (nI (((259) * (k)) + (p)))), some (.int (bI (((W.1)) (((259) * (k)) + (p))))), x7] [] (md_put h (((A.1), (A.2.1), (A.2.2.1), (A.2.2.2)), ((L.1), (L.2.1), (L.2.2.1), (L.2.2.2)), ((S.1), (S.2.1), (S.2.2.1), (S.2.2.2.1), (S.2.2.2.2)), ((C.1), (C.2.1), (C.2.2.1), (C.2.2.2.1), (C.2.2.2.2)), (((tB p 1 k (pW k (nI (300 * 1 + p)) W)).1), ((tB p 1 k (pW k (nI (300 * 1 + p)) W)).2.1), ((tB p 1 k (pW k (nI (300 * 1 + p)) W)).2.2.1), ((tB p 1 k (pW k (nI (300 * 1 + p)) W)).2.2.2)), ((T.1), (T.2.1), (T.2.2.1), (T.2.2.2.1), (T.2.2.2.2)))) N _
            have hoB : mWo (tB p 1 k (pW k (nI (300 * 1 + p)) W)) := fun j hj => hoA j hj
            refine e_sipush (pc := 122) d_md_tell_122 (v := (nI (259))) rfl ?_
            refine e_iload (pc := 125) d_md_tell_125 rfl ?_
            refine e_imulN (pc := 127) d_md_tell_127  ?_
            refine e_aload_n (pc := 128) d_md_tell_128 rfl ?_
            refine e_iload_n (pc := 129) d_md_tell_129 rfl ?_
            refine e_callV (As := [.int (nI (p))]) (st := [.int (nI ((259) * (k)))]) (cc2 := 0) (ss2 := 0) (pc := 130) d_md_tell_130 rfl cv_md_87 md_g42 rfl (c_md_parent htr hp) rfl (by decide) (by decide) (by omega) (by omega) (Nat.le_of_ble_eq_true rfl) (fun _ _ _ hq => nomatch hq.1) (fun r h2 N2 hq => ?_)
            obtain ⟨hr, e1, e2⟩ := hq
            cases hr
            rw [e1, e2]
            clear e1 e2
            show q_Ev l G m_md_tell 1 22 0 0 133 [some (.ref (42)), some (.int (ldI srv)), some (.int (nI (p))), some (.int (nI (1))), some (.int (nI (k))), some (.int (nI (((259) * (k)) + (p)))), some (.int (bI (((W.1)) (((259) * (k)) + (p))))), x7] [.int (nI ((p - 1) / 6)), .int (nI ((259) * (k)))] (md_put h (((A.1), (A.2.1), (A.2.2.1), (A.2.2.2)), ((L.1), (L.2.1), (L.2.2.1), (L.2.2.2)), ((S.1), (S.2.1), (S.2.2.1), (S.2.2.2.1), (S.2.2.2.2)), ((C.1), (C.2.1), (C.2.2.1), (C.2.2.2.1), (C.2.2.2.2)), (((tB p 1 k (pW k (nI (300 * 1 + p)) W)).1), ((tB p 1 k (pW k (nI (300 * 1 + p)) W)).2.1), ((tB p 1 k (pW k (nI (300 * 1 + p)) W)).2.2.1), ((tB p 1 k (pW k (nI (300 * 1 + p)) W)).2.2.2)), ((T.1), (T.2.1), (T.2.2.1), (T.2.2.2.1), (T.2.2.2.2)))) N _
            refine e_iaddN (pc := 133) d_md_tell_133  ?_
            refine e_istore (pc := 134) d_md_tell_134 (by decide) ?_
            refine e_iload_n (pc := 136) d_md_tell_136 rfl ?_
            refine e_iconst (pc := 137) d_md_tell_137 (v := (nI (2))) rfl ?_
            refine e_icmp_eqN (pc := 138) (tgt := 174) d_md_tell_138 (by decide) (by decide) (by decide) (fun c => absurd c (by decide)) (fun _ => ?_)
            refine e_aload_n (pc := 141) d_md_tell_141 rfl ?_
            refine e_get (pc := 142) d_md_tell_142 fl_md_60 md_g42 rfl ?_
            refine e_iload (pc := 145) d_md_tell_145 rfl ?_
            refine e_zaldN (pc := 147) d_md_tell_147 (f := ((tB p 1 k (pW k (nI (300 * 1 + p)) W)).2.1)) md_g58 (by omega) (by decide) ?_
            refine e_ifB_eq (pc := 148) (tgt := 174) d_md_tell_148 (by decide) (fun c5 => ?_) (fun c5 => ?_)
            · have eC : tC p 1 k (tB p 1 k (pW k (nI (300 * 1 + p)) W)) = (tB p 1 k (pW k (nI (300 * 1 + p)) W)) := by rw [tC, if_neg (fun z => by rw [show _ = true from z.2] at c5; exact nomatch c5)]
              rw [eC]
              refine e_iincN (pc := 174) d_md_tell_174 (a := k) (b := 1) rfl rfl (by decide) ?_
              refine e_goto (pc := 177) (tgt := 3) d_md_tell_177 (by decide) ?_
              exact ih (k + 1) _ _ _ _ ⟨by omega, hoB⟩
            · refine e_aload_n (pc := 151) d_md_tell_151 rfl ?_
              refine e_iload (pc := 152) d_md_tell_152 rfl ?_
              refine e_sipush (pc := 154) d_md_tell_154 (v := (nI (1200))) rfl ?_
              refine e_aload_n (pc := 157) d_md_tell_157 rfl ?_
              refine e_iload_n (pc := 158) d_md_tell_158 rfl ?_
              refine e_callV (As := [.int (nI (p))]) (st := [.int (nI (1200)), .int (nI (k)), .ref (42)]) (cc2 := 0) (ss2 := 0) (pc := 159) d_md_tell_159 rfl cv_md_87 md_g42 rfl (c_md_parent htr hp) rfl (by decide) (by decide) (by omega) (by omega) (Nat.le_of_ble_eq_true rfl) (fun _ _ _ hq => nomatch hq.1) (fun r h2 N2 hq => ?_)
              obtain ⟨hr, e1, e2⟩ := hq
              cases hr
              rw [e1, e2]
              clear e1 e2
              show q_Ev l G m_md_tell 1 22 0 0 162 [some (.ref (42)), some (.int (ldI srv)), some (.int (nI (p))), some (.int (nI (1))), some (.int (nI (k))), some (.int (nI (((259) * (k)) + (p)))), some (.int (bI (((W.1)) (((259) * (k)) + (p))))), some (.int (nI (((259) * (k)) + ((p - 1) / 6))))] [.int (nI ((p - 1) / 6)), .int (nI (1200)), .int (nI (k)), .ref (42)] (md_put h (((A.1), (A.2.1), (A.2.2.1), (A.2.2.2)), ((L.1), (L.2.1), (L.2.2.1), (L.2.2.2)), ((S.1), (S.2.1), (S.2.2.1), (S.2.2.2.1), (S.2.2.2.2)), ((C.1), (C.2.1), (C.2.2.1), (C.2.2.2.1), (C.2.2.2.2)), (((tB p 1 k (pW k (nI (300 * 1 + p)) W)).1), ((tB p 1 k (pW k (nI (300 * 1 + p)) W)).2.1), ((tB p 1 k (pW k (nI (300 * 1 + p)) W)).2.2.1), ((tB p 1 k (pW k (nI (300 * 1 + p)) W)).2.2.2)), ((T.1), (T.2.1), (T.2.2.1), (T.2.2.2.1), (T.2.2.2.2)))) N _
              refine e_iaddN (pc := 162) d_md_tell_162  ?_
              refine e_callV (As := [.int (nI (k)), .int (nI ((1200) + ((p - 1) / 6)))]) (st := []) (cc2 := 0) (ss2 := 0) (pc := 163) d_md_tell_163 rfl cv_md_102 md_g42 rfl (c_md_put htr hk4 hoB) rfl (by decide) (by decide) (by omega) (by omega) (Nat.le_of_ble_eq_true rfl) (fun _ _ _ hq => nomatch hq.1) (fun r h2 N2 hq => ?_)
              obtain ⟨hr, e1, e2⟩ := hq
              cases hr
              rw [e1, e2]
              clear e1 e2
              show q_Ev l G m_md_tell 1 22 0 0 166 [some (.ref (42)), some (.int (ldI srv)), some (.int (nI (p))), some (.int (nI (1))), some (.int (nI (k))), some (.int (nI (((259) * (k)) + (p)))), some (.int (bI (((W.1)) (((259) * (k)) + (p))))), some (.int (nI (((259) * (k)) + ((p - 1) / 6))))] [] _ N _
              show q_Ev l G m_md_tell 1 22 0 0 166 [some (.ref (42)), some (.int (ldI srv)), some (.int (nI (p))), some (.int (nI (1))), some (.int (nI (k))), some (.int (nI (((259) * (k)) + (p)))), some (.int (bI (((W.1)) (((259) * (k)) + (p))))), some (.int (nI (((259) * (k)) + ((p - 1) / 6))))] [] (md_put h (((A.1), (A.2.1), (A.2.2.1), (A.2.2.2)), ((L.1), (L.2.1), (L.2.2.1), (L.2.2.2)), ((S.1), (S.2.1), (S.2.2.1), (S.2.2.2.1), (S.2.2.2.2)), ((C.1), (C.2.1), (C.2.2.1), (C.2.2.2.1), (C.2.2.2.2)), (((pW k (nI (1200 + (p - 1) / 6)) (tB p 1 k (pW k (nI (300 * 1 + p)) W))).1), ((pW k (nI (1200 + (p - 1) / 6)) (tB p 1 k (pW k (nI (300 * 1 + p)) W))).2.1), ((pW k (nI (1200 + (p - 1) / 6)) (tB p 1 k (pW k (nI (300 * 1 + p)) W))).2.2.1), ((pW k (nI (1200 + (p - 1) / 6)) (tB p 1 k (pW k (nI (300 * 1 + p)) W))).2.2.2)), ((T.1), (T.2.1), (T.2.2.1), (T.2.2.2.1), (T.2.2.2.2)))) N _
              refine e_aload_n (pc := 166) d_md_tell_166 rfl ?_
              refine e_get (pc := 167) d_md_tell_167 fl_md_60 md_g42 rfl ?_
              refine e_iload (pc := 170) d_md_tell_170 rfl ?_
              refine e_iconst (pc := 172) d_md_tell_172 (v := (bI (false))) rfl ?_
              refine e_zastN (pc := 173) d_md_tell_173 (f := ((pW k (nI (1200 + (p - 1) / 6)) (tB p 1 k (pW k (nI (300 * 1 + p)) W))).2.1)) md_g58 (by omega) (by decide) ?_
              rw [md_u58]
              show q_Ev l G m_md_tell 1 22 0 0 174 [some (.ref (42)), some (.int (ldI srv)), some (.int (nI (p))), some (.int (nI (1))), some (.int (nI (k))), some (.int (nI (((259) * (k)) + (p)))), some (.int (bI (((W.1)) (((259) * (k)) + (p))))), some (.int (nI (((259) * (k)) + ((p - 1) / 6))))] [] (md_put h (((A.1), (A.2.1), (A.2.2.1), (A.2.2.2)), ((L.1), (L.2.1), (L.2.2.1), (L.2.2.2)), ((S.1), (S.2.1), (S.2.2.1), (S.2.2.2.1), (S.2.2.2.2)), ((C.1), (C.2.1), (C.2.2.1), (C.2.2.2.1), (C.2.2.2.2)), (((pW k (nI (1200 + (p - 1) / 6)) (tB p 1 k (pW k (nI (300 * 1 + p)) W))).1), (va_up (((pW k (nI (1200 + (p - 1) / 6)) (tB p 1 k (pW k (nI (300 * 1 + p)) W))).2.1)) (((259) * (k)) + ((p - 1) / 6)) (false)), ((pW k (nI (1200 + (p - 1) / 6)) (tB p 1 k (pW k (nI (300 * 1 + p)) W))).2.2.1), ((pW k (nI (1200 + (p - 1) / 6)) (tB p 1 k (pW k (nI (300 * 1 + p)) W))).2.2.2)), ((T.1), (T.2.1), (T.2.2.1), (T.2.2.2.1), (T.2.2.2.2)))) N _
              refine e_iincN (pc := 174) d_md_tell_174 (a := k) (b := 1) rfl rfl (by decide) ?_
              refine e_goto (pc := 177) (tgt := 3) d_md_tell_177 (by decide) ?_
              have eC : tC p 1 k (tB p 1 k (pW k (nI (300 * 1 + p)) W)) = ((pW k (nI (1200 + (p - 1) / 6)) (tB p 1 k (pW k (nI (300 * 1 + p)) W))).1, va_up (pW k (nI (1200 + (p - 1) / 6)) (tB p 1 k (pW k (nI (300 * 1 + p)) W))).2.1 (259 * k + (p - 1) / 6) false, (pW k (nI (1200 + (p - 1) / 6)) (tB p 1 k (pW k (nI (300 * 1 + p)) W))).2.2) := by rw [tC, if_pos ⟨by decide, c5⟩]
              rw [eC]
              exact ih (k + 1) ((pW k (nI (1200 + (p - 1) / 6)) (tB p 1 k (pW k (nI (300 * 1 + p)) W))).1, va_up (pW k (nI (1200 + (p - 1) / 6)) (tB p 1 k (pW k (nI (300 * 1 + p)) W))).2.1 (259 * k + (p - 1) / 6) false, (pW k (nI (1200 + (p - 1) / 6)) (tB p 1 k (pW k (nI (300 * 1 + p)) W))).2.2) _ _ _ ⟨by omega, fun j hj => pW_o (s := k) (v := nI (1200 + (p - 1) / 6)) hoB j hj⟩
        · refine e_goto (pc := 30) (tgt := 174) d_md_tell_30 (by decide) ?_
          have e1 : tl1 srv C p 1 k W = W := by rw [tl1, if_neg (fun z => c2 ((ldI_eq hsv hat).mpr z.2))]
          refine e_iincN (pc := 174) d_md_tell_174 (a := k) (b := 1) rfl rfl (by decide) ?_
          refine e_goto (pc := 177) (tgt := 3) d_md_tell_177 (by decide) ?_
          simp only [tlF]
          rw [e1]
          exact ih (k + 1) W x5 x6 x7 ⟨by omega, hW⟩
set_option maxHeartbeats 4000000 in
set_option maxRecDepth 100000 in
theorem c_md_tell1 {l : Launch} {G : q_G} (htr : l.stackTraces = false) {h : q_H} {N : Nat} {A : mA} {L : mL} {S : mS} {C : mC} {W : mW} {T : mT} {srv : Option Nat} (hsv : ∀ i, srv = some i → i < 3) (hC : mCo C) (hW : mWo W) {p : Nat} (hp : p < 259) : q_Met l G m_md_tell 1 22 0 0 [.ref (42), .int (ldI srv), .int (nI (p)), .int (nI (1))] (md_put h (A, L, S, C, W, T)) N (q_To (none) (md_put h (A, L, S, C, tlF srv C p 1 4 0 W, T)) N) := by
  refine q_Met.mk htr (by decide +kernel) rfl (List.forall_mem_cons.mpr ⟨rfl, List.forall_mem_cons.mpr ⟨rfl, List.forall_mem_cons.mpr ⟨rfl, List.forall_mem_cons.mpr ⟨rfl, fun _ h => nomatch h⟩⟩⟩⟩) (Nat.le_of_ble_eq_true rfl) ?_
  refine e_iconst (pc := 0) d_md_tell_0 (v := (nI (0))) rfl ?_
  refine e_istore (pc := 1) d_md_tell_1 (by decide) ?_
  exact lp_md_tell1 htr hsv hC hp 4 0 W none none none ⟨by omega, hW⟩
set_option maxHeartbeats 4000000 in
set_option maxRecDepth 100000 in
theorem lp_md_tell2 {l : Launch} {G : q_G} (htr : l.stackTraces = false) {h : q_H} {N : Nat} {A : mA} {L : mL} {S : mS} {C : mC} {T : mT} {srv : Option Nat} (hsv : ∀ i, srv = some i → i < 3) (hC : mCo C) {p : Nat} (hp : p < 259) : ∀ (g k : Nat) (W : mW) (x5 x6 x7 : Option Value), k + g = 4 ∧ mWo W → q_Ev l G m_md_tell 1 22 0 0 3 [some (.ref 42), some (.int (ldI srv)), some (.int (nI p)), some (.int (nI 2)), some (.int (nI k)), x5, x6, x7] [] (md_put h (((A.1), (A.2.1), (A.2.2.1), (A.2.2.2)), ((L.1), (L.2.1), (L.2.2.1), (L.2.2.2)), ((S.1), (S.2.1), (S.2.2.1), (S.2.2.2.1), (S.2.2.2.2)), ((C.1), (C.2.1), (C.2.2.1), (C.2.2.2.1), (C.2.2.2.2)), ((W.1), (W.2.1), (W.2.2.1), (W.2.2.2)), ((T.1), (T.2.1), (T.2.2.1), (T.2.2.2.1), (T.2.2.2.2)))) N (q_To (none) (md_put h (A, L, S, C, tlF srv C p 2 g k W, T)) N) := by
  intro g
  induction g with
  | zero =>
    intro k W x5 x6 x7 he
    have hkn : k = 4 := by omega
    subst hkn
    refine e_iload (pc := 3) d_md_tell_3 rfl ?_
    refine e_iconst (pc := 5) d_md_tell_5 (v := (nI (4))) rfl ?_
    refine e_icmp_geN (pc := 6) (tgt := 180) d_md_tell_6 (by decide) (by omega) (by omega) (fun c => ?_) (fun c => ?_)
    · exact e_vret (pc := 180) d_md_tell_180 rfl (⟨rfl, rfl, rfl⟩)
    · omega
  | succ g ih =>
    intro k W x5 x6 x7 he
    obtain ⟨he, hW⟩ := he
    refine e_iload (pc := 3) d_md_tell_3 rfl ?_
    refine e_iconst (pc := 5) d_md_tell_5 (v := (nI (4))) rfl ?_
    refine e_icmp_geN (pc := 6) (tgt := 180) d_md_tell_6 (by decide) (by omega) (by omega) (fun c => ?_) (fun c => ?_)
    · omega
    · have hk4 : k < 4 := by omega
      have hat := hC k hk4
      refine e_aload_n (pc := 9) d_md_tell_9 rfl ?_
      refine e_get (pc := 10) d_md_tell_10 fl_md_42 md_g42 rfl ?_
      refine e_iload (pc := 13) d_md_tell_13 rfl ?_
      refine e_zaldN (pc := 15) d_md_tell_15 (f := (C.1)) md_g52 (by omega) (by decide) ?_
      refine e_ifB_eq (pc := 16) (tgt := 174) d_md_tell_16 (by decide) (fun c1 => ?_) (fun c1 => ?_)
      · have e1 : tl1 srv C p 2 k W = W := by rw [tl1, if_neg (fun z => by rw [c1] at z; exact nomatch z.1)]
        refine e_iincN (pc := 174) d_md_tell_174 (a := k) (b := 1) rfl rfl (by decide) ?_
        refine e_goto (pc := 177) (tgt := 3) d_md_tell_177 (by decide) ?_
        simp only [tlF]
        rw [e1]
        exact ih (k + 1) W x5 x6 x7 ⟨by omega, hW⟩
      · refine e_aload_n (pc := 19) d_md_tell_19 rfl ?_
        refine e_get (pc := 20) d_md_tell_20 fl_md_48 md_g42 rfl ?_
        refine e_iload (pc := 23) d_md_tell_23 rfl ?_
        refine e_naldN (pc := 25) d_md_tell_25 (f := (C.2.2.1)) md_g54 (by omega) (by decide) ?_
        refine e_iload_n (pc := 26) d_md_tell_26 rfl ?_
        refine e_icmp_eq (pc := 27) (tgt := 33) d_md_tell_27 (by decide) (fun c2 => ?_) (fun c2 => ?_)
        · have e1 : tl1 srv C p 2 k W = tW p 2 k W := by rw [tl1, if_pos ⟨c1, (ldI_eq hsv hat).mp c2⟩]
          simp only [tlF]
          rw [e1]
          unfold tW
          have hoA := tA_o (p := p) (w := 2) (s := k) hW
          have hoW := tW_o (p := p) (w := 2) (s := k) hW
          refine e_sipush (pc := 33) d_md_tell_33 (v := (nI (259))) rfl ?_
          refine e_iload (pc := 36) d_md_tell_36 rfl ?_
          refine e_imulN (pc := 38) d_md_tell_38  ?_
          refine e_iload_n (pc := 39) d_md_tell_39 rfl ?_
          refine e_iaddN (pc := 40) d_md_tell_40  ?_
          refine e_istore (pc := 41) d_md_tell_41 (by decide) ?_
          refine e_aload_n (pc := 43) d_md_tell_43 rfl ?_
          refine e_get (pc := 44) d_md_tell_44 fl_md_57 md_g42 rfl ?_
          refine e_iload (pc := 47) d_md_tell_47 rfl ?_
          refine e_zaldN (pc := 49) d_md_tell_49 (f := (W.1)) md_g57 (by omega) (by decide) ?_
          refine e_istore (pc := 50) d_md_tell_50 (by decide) ?_
          refine e_iload (pc := 52) d_md_tell_52 rfl ?_
          refine e_ifB_eq (pc := 54) (tgt := 70) d_md_tell_54 (by decide) (fun c3 => ?_) (fun c3 => ?_)
          · refine e_iload_n (pc := 70) d_md_tell_70 rfl ?_
            refine e_iconst (pc := 71) d_md_tell_71 (v := (nI (3))) rfl ?_
            refine e_icmp_neN (pc := 72) (tgt := 101) d_md_tell_72 (by decide) (by decide) (by decide) (fun _ => ?_) (fun c => absurd c (by decide))
            refine e_iload_n (pc := 101) d_md_tell_101 rfl ?_
            refine e_iconst (pc := 102) d_md_tell_102 (v := (nI (3))) rfl ?_
            have eA : tA p 2 k W = W := by rw [tA, if_neg (by rw [c3]; decide), if_neg (fun z => by exact absurd z.1 (by decide))]
            rw [eA]
            rw [eA] at hoA
            refine e_icmp_neN (pc := 103) (tgt := 114) d_md_tell_103 (by decide) (by decide) (by decide) (fun _ => ?_) (fun c => absurd c (by decide))
            refine e_aload_n (pc := 114) d_md_tell_114 rfl ?_
            refine e_get (pc := 115) d_md_tell_115 fl_md_57 md_g42 rfl ?_
            refine e_iload (pc := 118) d_md_tell_118 rfl ?_
            refine e_iconst (pc := 120) d_md_tell_120 (v := (bI (false))) rfl ?_
            refine e_zastN (pc := 121) d_md_tell_121 (f := (W.1)) md_g57 (by omega) (by decide) ?_
            rw [md_u57]
            show q_Ev l G m_md_tell 1 22 0 0 122 [some (.ref (42)), some (.int (ldI srv)), some (.int (nI (p))), some (.int (nI (2))), some (.int (nI (k))), some (.int (nI (((259) * (k)) + (p)))), some (.int (bI (((W.1)) (((259) * (k)) + (p))))), x7] [] (md_put h (((A.1), (A.2.1), (A.2.2.1), (A.2.2.2)), ((L.1), (L.2.1), (L.2.2.1), (L.2.2.2)), ((S.1), (S.2.1), (S.2.2.1), (S.2.2.2.1), (S.2.2.2.2)), ((C.1), (C.2.1), (C.2.2.1), (C.2.2.2.1), (C.2.2.2.2)), ((va_up ((W.1)) (((259) * (k)) + (p)) (false)), (W.2.1), (W.2.2.1), (W.2.2.2)), ((T.1), (T.2.1), (T.2.2.1), (T.2.2.2.1), (T.2.2.2.2)))) N _
            show q_Ev l G m_md_tell 1 22 0 0 122 [some (.ref (42)), some (.int (ldI srv)), some (.int (nI (p))), some (.int (nI (2))), some (.int (nI (k))), some (.int (nI (((259) * (k)) + (p)))), some (.int (bI (((W.1)) (((259) * (k)) + (p))))), x7] [] (md_put h (((A.1), (A.2.1), (A.2.2.1), (A.2.2.2)), ((L.1), (L.2.1), (L.2.2.1), (L.2.2.2)), ((S.1), (S.2.1), (S.2.2.1), (S.2.2.2.1), (S.2.2.2.2)), ((C.1), (C.2.1), (C.2.2.1), (C.2.2.2.1), (C.2.2.2.2)), (((tB p 2 k W).1), ((tB p 2 k W).2.1), ((tB p 2 k W).2.2.1), ((tB p 2 k W).2.2.2)), ((T.1), (T.2.1), (T.2.2.1), (T.2.2.2.1), (T.2.2.2.2)))) N _
            have hoB : mWo (tB p 2 k W) := fun j hj => hoA j hj
            refine e_sipush (pc := 122) d_md_tell_122 (v := (nI (259))) rfl ?_
            refine e_iload (pc := 125) d_md_tell_125 rfl ?_
            refine e_imulN (pc := 127) d_md_tell_127  ?_
            refine e_aload_n (pc := 128) d_md_tell_128 rfl ?_
            refine e_iload_n (pc := 129) d_md_tell_129 rfl ?_
            refine e_callV (As := [.int (nI (p))]) (st := [.int (nI ((259) * (k)))]) (cc2 := 0) (ss2 := 0) (pc := 130) d_md_tell_130 rfl cv_md_87 md_g42 rfl (c_md_parent htr hp) rfl (by decide) (by decide) (by omega) (by omega) (Nat.le_of_ble_eq_true rfl) (fun _ _ _ hq => nomatch hq.1) (fun r h2 N2 hq => ?_)
            obtain ⟨hr, e1, e2⟩ := hq
            cases hr
            rw [e1, e2]
            clear e1 e2
            show q_Ev l G m_md_tell 1 22 0 0 133 [some (.ref (42)), some (.int (ldI srv)), some (.int (nI (p))), some (.int (nI (2))), some (.int (nI (k))), some (.int (nI (((259) * (k)) + (p)))), some (.int (bI (((W.1)) (((259) * (k)) + (p))))), x7] [.int (nI ((p - 1) / 6)), .int (nI ((259) * (k)))] (md_put h (((A.1), (A.2.1), (A.2.2.1), (A.2.2.2)), ((L.1), (L.2.1), (L.2.2.1), (L.2.2.2)), ((S.1), (S.2.1), (S.2.2.1), (S.2.2.2.1), (S.2.2.2.2)), ((C.1), (C.2.1), (C.2.2.1), (C.2.2.2.1), (C.2.2.2.2)), (((tB p 2 k W).1), ((tB p 2 k W).2.1), ((tB p 2 k W).2.2.1), ((tB p 2 k W).2.2.2)), ((T.1), (T.2.1), (T.2.2.1), (T.2.2.2.1), (T.2.2.2.2)))) N _
            refine e_iaddN (pc := 133) d_md_tell_133  ?_
            refine e_istore (pc := 134) d_md_tell_134 (by decide) ?_
            refine e_iload_n (pc := 136) d_md_tell_136 rfl ?_
            refine e_iconst (pc := 137) d_md_tell_137 (v := (nI (2))) rfl ?_
            refine e_icmp_eqN (pc := 138) (tgt := 174) d_md_tell_138 (by decide) (by decide) (by decide) (fun _ => ?_) (fun c => absurd c (by decide))
            have eC : tC p 2 k (tB p 2 k W) = (tB p 2 k W) := by rw [tC, if_neg (fun z => z.1 rfl)]
            rw [eC]
            have := hoB
            refine e_iincN (pc := 174) d_md_tell_174 (a := k) (b := 1) rfl rfl (by decide) ?_
            refine e_goto (pc := 177) (tgt := 3) d_md_tell_177 (by decide) ?_
            exact ih (k + 1) _ _ _ _ ⟨by omega, hoB⟩
          · refine e_aload_n (pc := 57) d_md_tell_57 rfl ?_
            refine e_iload (pc := 58) d_md_tell_58 rfl ?_
            refine e_sipush (pc := 60) d_md_tell_60 (v := (nI (300))) rfl ?_
            refine e_iload_n (pc := 63) d_md_tell_63 rfl ?_
            refine e_imulN (pc := 64) d_md_tell_64  ?_
            refine e_iload_n (pc := 65) d_md_tell_65 rfl ?_
            refine e_iaddN (pc := 66) d_md_tell_66  ?_
            refine e_callV (As := [.int (nI (k)), .int (nI (((300) * (2)) + (p)))]) (st := []) (cc2 := 0) (ss2 := 0) (pc := 67) d_md_tell_67 rfl cv_md_102 md_g42 rfl (c_md_put htr hk4 hW) rfl (by decide) (by decide) (by omega) (by omega) (Nat.le_of_ble_eq_true rfl) (fun _ _ _ hq => nomatch hq.1) (fun r h2 N2 hq => ?_)
            obtain ⟨hr, e1, e2⟩ := hq
            cases hr
            rw [e1, e2]
            clear e1 e2
            show q_Ev l G m_md_tell 1 22 0 0 70 [some (.ref (42)), some (.int (ldI srv)), some (.int (nI (p))), some (.int (nI (2))), some (.int (nI (k))), some (.int (nI (((259) * (k)) + (p)))), some (.int (bI (((W.1)) (((259) * (k)) + (p))))), x7] [] _ N _
            show q_Ev l G m_md_tell 1 22 0 0 70 [some (.ref (42)), some (.int (ldI srv)), some (.int (nI (p))), some (.int (nI (2))), some (.int (nI (k))), some (.int (nI (((259) * (k)) + (p)))), some (.int (bI (((W.1)) (((259) * (k)) + (p))))), x7] [] (md_put h (((A.1), (A.2.1), (A.2.2.1), (A.2.2.2)), ((L.1), (L.2.1), (L.2.2.1), (L.2.2.2)), ((S.1), (S.2.1), (S.2.2.1), (S.2.2.2.1), (S.2.2.2.2)), ((C.1), (C.2.1), (C.2.2.1), (C.2.2.2.1), (C.2.2.2.2)), (((pW k (nI (300 * 2 + p)) W).1), ((pW k (nI (300 * 2 + p)) W).2.1), ((pW k (nI (300 * 2 + p)) W).2.2.1), ((pW k (nI (300 * 2 + p)) W).2.2.2)), ((T.1), (T.2.1), (T.2.2.1), (T.2.2.2.1), (T.2.2.2.2)))) N _
            refine e_iload_n (pc := 70) d_md_tell_70 rfl ?_
            refine e_iconst (pc := 71) d_md_tell_71 (v := (nI (3))) rfl ?_
            refine e_icmp_neN (pc := 72) (tgt := 101) d_md_tell_72 (by decide) (by decide) (by decide) (fun _ => ?_) (fun c => absurd c (by decide))
            refine e_iload_n (pc := 101) d_md_tell_101 rfl ?_
            refine e_iconst (pc := 102) d_md_tell_102 (v := (nI (3))) rfl ?_
            have eA : tA p 2 k W = (pW k (nI (300 * 2 + p)) W) := by rw [tA, if_pos c3]
            rw [eA]
            rw [eA] at hoA
            refine e_icmp_neN (pc := 103) (tgt := 114) d_md_tell_103 (by decide) (by decide) (by decide) (fun _ => ?_) (fun c => absurd c (by decide))
            refine e_aload_n (pc := 114) d_md_tell_114 rfl ?_
            refine e_get (pc := 115) d_md_tell_115 fl_md_57 md_g42 rfl ?_
            refine e_iload (pc := 118) d_md_tell_118 rfl ?_
            refine e_iconst (pc := 120) d_md_tell_120 (v := (bI (false))) rfl ?_
            refine e_zastN (pc := 121) d_md_tell_121 (f := ((pW k (nI (300 * 2 + p)) W).1)) md_g57 (by omega) (by decide) ?_
            rw [md_u57]
            show q_Ev l G m_md_tell 1 22 0 0 122 [some (.ref (42)), some (.int (ldI srv)), some (.int (nI (p))), some (.int (nI (2))), some (.int (nI (k))), some (.int (nI (((259) * (k)) + (p)))), some (.int (bI (((W.1)) (((259) * (k)) + (p))))), x7] [] (md_put h (((A.1), (A.2.1), (A.2.2.1), (A.2.2.2)), ((L.1), (L.2.1), (L.2.2.1), (L.2.2.2)), ((S.1), (S.2.1), (S.2.2.1), (S.2.2.2.1), (S.2.2.2.2)), ((C.1), (C.2.1), (C.2.2.1), (C.2.2.2.1), (C.2.2.2.2)), ((va_up (((pW k (nI (300 * 2 + p)) W).1)) (((259) * (k)) + (p)) (false)), ((pW k (nI (300 * 2 + p)) W).2.1), ((pW k (nI (300 * 2 + p)) W).2.2.1), ((pW k (nI (300 * 2 + p)) W).2.2.2)), ((T.1), (T.2.1), (T.2.2.1), (T.2.2.2.1), (T.2.2.2.2)))) N _
            show q_Ev l G m_md_tell 1 22 0 0 122 [some (.ref (42)), some (.int (ldI srv)), some (.int (nI (p))), some (.int (nI (2))), some (.int (nI (k))), some (.int (nI (((259) * (k)) + (p)))), some (.int (bI (((W.1)) (((259) * (k)) + (p))))), x7] [] (md_put h (((A.1), (A.2.1), (A.2.2.1), (A.2.2.2)), ((L.1), (L.2.1), (L.2.2.1), (L.2.2.2)), ((S.1), (S.2.1), (S.2.2.1), (S.2.2.2.1), (S.2.2.2.2)), ((C.1), (C.2.1), (C.2.2.1), (C.2.2.2.1), (C.2.2.2.2)), (((tB p 2 k (pW k (nI (300 * 2 + p)) W)).1), ((tB p 2 k (pW k (nI (300 * 2 + p)) W)).2.1), ((tB p 2 k (pW k (nI (300 * 2 + p)) W)).2.2.1), ((tB p 2 k (pW k (nI (300 * 2 + p)) W)).2.2.2)), ((T.1), (T.2.1), (T.2.2.1), (T.2.2.2.1), (T.2.2.2.2)))) N _
            have hoB : mWo (tB p 2 k (pW k (nI (300 * 2 + p)) W)) := fun j hj => hoA j hj
            refine e_sipush (pc := 122) d_md_tell_122 (v := (nI (259))) rfl ?_
            refine e_iload (pc := 125) d_md_tell_125 rfl ?_
            refine e_imulN (pc := 127) d_md_tell_127  ?_
            refine e_aload_n (pc := 128) d_md_tell_128 rfl ?_
            refine e_iload_n (pc := 129) d_md_tell_129 rfl ?_
            refine e_callV (As := [.int (nI (p))]) (st := [.int (nI ((259) * (k)))]) (cc2 := 0) (ss2 := 0) (pc := 130) d_md_tell_130 rfl cv_md_87 md_g42 rfl (c_md_parent htr hp) rfl (by decide) (by decide) (by omega) (by omega) (Nat.le_of_ble_eq_true rfl) (fun _ _ _ hq => nomatch hq.1) (fun r h2 N2 hq => ?_)
            obtain ⟨hr, e1, e2⟩ := hq
            cases hr
            rw [e1, e2]
            clear e1 e2
            show q_Ev l G m_md_tell 1 22 0 0 133 [some (.ref (42)), some (.int (ldI srv)), some (.int (nI (p))), some (.int (nI (2))), some (.int (nI (k))), some (.int (nI (((259) * (k)) + (p)))), some (.int (bI (((W.1)) (((259) * (k)) + (p))))), x7] [.int (nI ((p - 1) / 6)), .int (nI ((259) * (k)))] (md_put h (((A.1), (A.2.1), (A.2.2.1), (A.2.2.2)), ((L.1), (L.2.1), (L.2.2.1), (L.2.2.2)), ((S.1), (S.2.1), (S.2.2.1), (S.2.2.2.1), (S.2.2.2.2)), ((C.1), (C.2.1), (C.2.2.1), (C.2.2.2.1), (C.2.2.2.2)), (((tB p 2 k (pW k (nI (300 * 2 + p)) W)).1), ((tB p 2 k (pW k (nI (300 * 2 + p)) W)).2.1), ((tB p 2 k (pW k (nI (300 * 2 + p)) W)).2.2.1), ((tB p 2 k (pW k (nI (300 * 2 + p)) W)).2.2.2)), ((T.1), (T.2.1), (T.2.2.1), (T.2.2.2.1), (T.2.2.2.2)))) N _
            refine e_iaddN (pc := 133) d_md_tell_133  ?_
            refine e_istore (pc := 134) d_md_tell_134 (by decide) ?_
            refine e_iload_n (pc := 136) d_md_tell_136 rfl ?_
            refine e_iconst (pc := 137) d_md_tell_137 (v := (nI (2))) rfl ?_
            refine e_icmp_eqN (pc := 138) (tgt := 174) d_md_tell_138 (by decide) (by decide) (by decide) (fun _ => ?_) (fun c => absurd c (by decide))
            have eC : tC p 2 k (tB p 2 k (pW k (nI (300 * 2 + p)) W)) = (tB p 2 k (pW k (nI (300 * 2 + p)) W)) := by rw [tC, if_neg (fun z => z.1 rfl)]
            rw [eC]
            have := hoB
            refine e_iincN (pc := 174) d_md_tell_174 (a := k) (b := 1) rfl rfl (by decide) ?_
            refine e_goto (pc := 177) (tgt := 3) d_md_tell_177 (by decide) ?_
            exact ih (k + 1) _ _ _ _ ⟨by omega, hoB⟩
        · refine e_goto (pc := 30) (tgt := 174) d_md_tell_30 (by decide) ?_
          have e1 : tl1 srv C p 2 k W = W := by rw [tl1, if_neg (fun z => c2 ((ldI_eq hsv hat).mpr z.2))]
          refine e_iincN (pc := 174) d_md_tell_174 (a := k) (b := 1) rfl rfl (by decide) ?_
          refine e_goto (pc := 177) (tgt := 3) d_md_tell_177 (by decide) ?_
          simp only [tlF]
          rw [e1]
          exact ih (k + 1) W x5 x6 x7 ⟨by omega, hW⟩
set_option maxHeartbeats 4000000 in
set_option maxRecDepth 100000 in
theorem c_md_tell2 {l : Launch} {G : q_G} (htr : l.stackTraces = false) {h : q_H} {N : Nat} {A : mA} {L : mL} {S : mS} {C : mC} {W : mW} {T : mT} {srv : Option Nat} (hsv : ∀ i, srv = some i → i < 3) (hC : mCo C) (hW : mWo W) {p : Nat} (hp : p < 259) : q_Met l G m_md_tell 1 22 0 0 [.ref (42), .int (ldI srv), .int (nI (p)), .int (nI (2))] (md_put h (A, L, S, C, W, T)) N (q_To (none) (md_put h (A, L, S, C, tlF srv C p 2 4 0 W, T)) N) := by
  refine q_Met.mk htr (by decide +kernel) rfl (List.forall_mem_cons.mpr ⟨rfl, List.forall_mem_cons.mpr ⟨rfl, List.forall_mem_cons.mpr ⟨rfl, List.forall_mem_cons.mpr ⟨rfl, fun _ h => nomatch h⟩⟩⟩⟩) (Nat.le_of_ble_eq_true rfl) ?_
  refine e_iconst (pc := 0) d_md_tell_0 (v := (nI (0))) rfl ?_
  refine e_istore (pc := 1) d_md_tell_1 (by decide) ?_
  exact lp_md_tell2 htr hsv hC hp 4 0 W none none none ⟨by omega, hW⟩
set_option maxHeartbeats 4000000 in
set_option maxRecDepth 100000 in
theorem lp_md_tell3 {l : Launch} {G : q_G} (htr : l.stackTraces = false) {h : q_H} {N : Nat} {A : mA} {L : mL} {S : mS} {C : mC} {T : mT} {srv : Option Nat} (hsv : ∀ i, srv = some i → i < 3) (hC : mCo C) {p : Nat} (hp : p < 259) : ∀ (g k : Nat) (W : mW) (x5 x6 x7 : Option Value), k + g = 4 ∧ mWo W → q_Ev l G m_md_tell 1 22 0 0 3 [some (.ref 42), some (.int (ldI srv)), some (.int (nI p)), some (.int (nI 3)), some (.int (nI k)), x5, x6, x7] [] (md_put h (((A.1), (A.2.1), (A.2.2.1), (A.2.2.2)), ((L.1), (L.2.1), (L.2.2.1), (L.2.2.2)), ((S.1), (S.2.1), (S.2.2.1), (S.2.2.2.1), (S.2.2.2.2)), ((C.1), (C.2.1), (C.2.2.1), (C.2.2.2.1), (C.2.2.2.2)), ((W.1), (W.2.1), (W.2.2.1), (W.2.2.2)), ((T.1), (T.2.1), (T.2.2.1), (T.2.2.2.1), (T.2.2.2.2)))) N (q_To (none) (md_put h (A, L, S, C, tlF srv C p 3 g k W, T)) N) := by
  intro g
  induction g with
  | zero =>
    intro k W x5 x6 x7 he
    have hkn : k = 4 := by omega
    subst hkn
    refine e_iload (pc := 3) d_md_tell_3 rfl ?_
    refine e_iconst (pc := 5) d_md_tell_5 (v := (nI (4))) rfl ?_
    refine e_icmp_geN (pc := 6) (tgt := 180) d_md_tell_6 (by decide) (by omega) (by omega) (fun c => ?_) (fun c => ?_)
    · exact e_vret (pc := 180) d_md_tell_180 rfl (⟨rfl, rfl, rfl⟩)
    · omega
  | succ g ih =>
    intro k W x5 x6 x7 he
    obtain ⟨he, hW⟩ := he
    refine e_iload (pc := 3) d_md_tell_3 rfl ?_
    refine e_iconst (pc := 5) d_md_tell_5 (v := (nI (4))) rfl ?_
    refine e_icmp_geN (pc := 6) (tgt := 180) d_md_tell_6 (by decide) (by omega) (by omega) (fun c => ?_) (fun c => ?_)
    · omega
    · have hk4 : k < 4 := by omega
      have hat := hC k hk4
      refine e_aload_n (pc := 9) d_md_tell_9 rfl ?_
      refine e_get (pc := 10) d_md_tell_10 fl_md_42 md_g42 rfl ?_
      refine e_iload (pc := 13) d_md_tell_13 rfl ?_
      refine e_zaldN (pc := 15) d_md_tell_15 (f := (C.1)) md_g52 (by omega) (by decide) ?_
      refine e_ifB_eq (pc := 16) (tgt := 174) d_md_tell_16 (by decide) (fun c1 => ?_) (fun c1 => ?_)
      · have e1 : tl1 srv C p 3 k W = W := by rw [tl1, if_neg (fun z => by rw [c1] at z; exact nomatch z.1)]
        refine e_iincN (pc := 174) d_md_tell_174 (a := k) (b := 1) rfl rfl (by decide) ?_
        refine e_goto (pc := 177) (tgt := 3) d_md_tell_177 (by decide) ?_
        simp only [tlF]
        rw [e1]
        exact ih (k + 1) W x5 x6 x7 ⟨by omega, hW⟩
      · refine e_aload_n (pc := 19) d_md_tell_19 rfl ?_
        refine e_get (pc := 20) d_md_tell_20 fl_md_48 md_g42 rfl ?_
        refine e_iload (pc := 23) d_md_tell_23 rfl ?_
        refine e_naldN (pc := 25) d_md_tell_25 (f := (C.2.2.1)) md_g54 (by omega) (by decide) ?_
        refine e_iload_n (pc := 26) d_md_tell_26 rfl ?_
        refine e_icmp_eq (pc := 27) (tgt := 33) d_md_tell_27 (by decide) (fun c2 => ?_) (fun c2 => ?_)
        · have e1 : tl1 srv C p 3 k W = tW p 3 k W := by rw [tl1, if_pos ⟨c1, (ldI_eq hsv hat).mp c2⟩]
          simp only [tlF]
          rw [e1]
          unfold tW
          have hoA := tA_o (p := p) (w := 3) (s := k) hW
          have hoW := tW_o (p := p) (w := 3) (s := k) hW
          refine e_sipush (pc := 33) d_md_tell_33 (v := (nI (259))) rfl ?_
          refine e_iload (pc := 36) d_md_tell_36 rfl ?_
          refine e_imulN (pc := 38) d_md_tell_38  ?_
          refine e_iload_n (pc := 39) d_md_tell_39 rfl ?_
          refine e_iaddN (pc := 40) d_md_tell_40  ?_
          refine e_istore (pc := 41) d_md_tell_41 (by decide) ?_
          refine e_aload_n (pc := 43) d_md_tell_43 rfl ?_
          refine e_get (pc := 44) d_md_tell_44 fl_md_57 md_g42 rfl ?_
          refine e_iload (pc := 47) d_md_tell_47 rfl ?_
          refine e_zaldN (pc := 49) d_md_tell_49 (f := (W.1)) md_g57 (by omega) (by decide) ?_
          refine e_istore (pc := 50) d_md_tell_50 (by decide) ?_
          refine e_iload (pc := 52) d_md_tell_52 rfl ?_
          refine e_ifB_eq (pc := 54) (tgt := 70) d_md_tell_54 (by decide) (fun c3 => ?_) (fun c3 => ?_)
          · refine e_iload_n (pc := 70) d_md_tell_70 rfl ?_
            refine e_iconst (pc := 71) d_md_tell_71 (v := (nI (3))) rfl ?_
            refine e_icmp_neN (pc := 72) (tgt := 101) d_md_tell_72 (by decide) (by decide) (by decide) (fun c => absurd c (by decide)) (fun _ => ?_)
            refine e_iload (pc := 75) d_md_tell_75 rfl ?_
            refine e_ifB_ne (pc := 77) (tgt := 101) d_md_tell_77 (by decide) (fun c3b => ?_) (fun c3b => ?_)
            · rw [show _ = false from c3] at c3b; exact nomatch c3b
            · refine e_aload_n (pc := 80) d_md_tell_80 rfl ?_
              refine e_get (pc := 81) d_md_tell_81 fl_md_60 md_g42 rfl ?_
              refine e_iload (pc := 84) d_md_tell_84 rfl ?_
              refine e_zaldN (pc := 86) d_md_tell_86 (f := (W.2.1)) md_g58 (by omega) (by decide) ?_
              refine e_ifB_eq (pc := 87) (tgt := 101) d_md_tell_87 (by decide) (fun c4 => ?_) (fun c4 => ?_)
              · have eA : tA p 3 k W = W := by rw [tA, if_neg (by rw [c3]; decide), if_neg (fun z => by rw [z.2] at c4; exact nomatch c4)]
                rw [eA]
                rw [eA] at hoA
                refine e_iload_n (pc := 101) d_md_tell_101 rfl ?_
                refine e_iconst (pc := 102) d_md_tell_102 (v := (nI (3))) rfl ?_
                refine e_icmp_neN (pc := 103) (tgt := 114) d_md_tell_103 (by decide) (by decide) (by decide) (fun c => absurd c (by decide)) (fun _ => ?_)
                refine e_aload_n (pc := 106) d_md_tell_106 rfl ?_
                refine e_get (pc := 107) d_md_tell_107 fl_md_60 md_g42 rfl ?_
                refine e_iload (pc := 110) d_md_tell_110 rfl ?_
                refine e_iconst (pc := 112) d_md_tell_112 (v := (bI (false))) rfl ?_
                refine e_zastN (pc := 113) d_md_tell_113 (f := (W.2.1)) md_g58 (by omega) (by decide) ?_
                rw [md_u58]
                show q_Ev l G m_md_tell 1 22 0 0 114 [some (.ref (42)), some (.int (ldI srv)), some (.int (nI (p))), some (.int (nI (3))), some (.int (nI (k))), some (.int (nI (((259) * (k)) + (p)))), some (.int (bI (((W.1)) (((259) * (k)) + (p))))), x7] [] (md_put h (((A.1), (A.2.1), (A.2.2.1), (A.2.2.2)), ((L.1), (L.2.1), (L.2.2.1), (L.2.2.2)), ((S.1), (S.2.1), (S.2.2.1), (S.2.2.2.1), (S.2.2.2.2)), ((C.1), (C.2.1), (C.2.2.1), (C.2.2.2.1), (C.2.2.2.2)), ((W.1), (va_up ((W.2.1)) (((259) * (k)) + (p)) (false)), (W.2.2.1), (W.2.2.2)), ((T.1), (T.2.1), (T.2.2.1), (T.2.2.2.1), (T.2.2.2.2)))) N _
                refine e_aload_n (pc := 114) d_md_tell_114 rfl ?_
                refine e_get (pc := 115) d_md_tell_115 fl_md_57 md_g42 rfl ?_
                refine e_iload (pc := 118) d_md_tell_118 rfl ?_
                refine e_iconst (pc := 120) d_md_tell_120 (v := (bI (false))) rfl ?_
                refine e_zastN (pc := 121) d_md_tell_121 (f := (W.1)) md_g57 (by omega) (by decide) ?_
                rw [md_u57]
                show q_Ev l G m_md_tell 1 22 0 0 122 [some (.ref (42)), some (.int (ldI srv)), some (.int (nI (p))), some (.int (nI (3))), some (.int (nI (k))), some (.int (nI (((259) * (k)) + (p)))), some (.int (bI (((W.1)) (((259) * (k)) + (p))))), x7] [] (md_put h (((A.1), (A.2.1), (A.2.2.1), (A.2.2.2)), ((L.1), (L.2.1), (L.2.2.1), (L.2.2.2)), ((S.1), (S.2.1), (S.2.2.1), (S.2.2.2.1), (S.2.2.2.2)), ((C.1), (C.2.1), (C.2.2.1), (C.2.2.2.1), (C.2.2.2.2)), ((va_up ((W.1)) (((259) * (k)) + (p)) (false)), (va_up ((W.2.1)) (((259) * (k)) + (p)) (false)), (W.2.2.1), (W.2.2.2)), ((T.1), (T.2.1), (T.2.2.1), (T.2.2.2.1), (T.2.2.2.2)))) N _
                show q_Ev l G m_md_tell 1 22 0 0 122 [some (.ref (42)), some (.int (ldI srv)), some (.int (nI (p))), some (.int (nI (3))), some (.int (nI (k))), some (.int (nI (((259) * (k)) + (p)))), some (.int (bI (((W.1)) (((259) * (k)) + (p))))), x7] [] (md_put h (((A.1), (A.2.1), (A.2.2.1), (A.2.2.2)), ((L.1), (L.2.1), (L.2.2.1), (L.2.2.2)), ((S.1), (S.2.1), (S.2.2.1), (S.2.2.2.1), (S.2.2.2.2)), ((C.1), (C.2.1), (C.2.2.1), (C.2.2.2.1), (C.2.2.2.2)), (((tB p 3 k W).1), ((tB p 3 k W).2.1), ((tB p 3 k W).2.2.1), ((tB p 3 k W).2.2.2)), ((T.1), (T.2.1), (T.2.2.1), (T.2.2.2.1), (T.2.2.2.2)))) N _
                have hoB : mWo (tB p 3 k W) := fun j hj => hoA j hj
                refine e_sipush (pc := 122) d_md_tell_122 (v := (nI (259))) rfl ?_
                refine e_iload (pc := 125) d_md_tell_125 rfl ?_
                refine e_imulN (pc := 127) d_md_tell_127  ?_
                refine e_aload_n (pc := 128) d_md_tell_128 rfl ?_
                refine e_iload_n (pc := 129) d_md_tell_129 rfl ?_
                refine e_callV (As := [.int (nI (p))]) (st := [.int (nI ((259) * (k)))]) (cc2 := 0) (ss2 := 0) (pc := 130) d_md_tell_130 rfl cv_md_87 md_g42 rfl (c_md_parent htr hp) rfl (by decide) (by decide) (by omega) (by omega) (Nat.le_of_ble_eq_true rfl) (fun _ _ _ hq => nomatch hq.1) (fun r h2 N2 hq => ?_)
                obtain ⟨hr, e1, e2⟩ := hq
                cases hr
                rw [e1, e2]
                clear e1 e2
                show q_Ev l G m_md_tell 1 22 0 0 133 [some (.ref (42)), some (.int (ldI srv)), some (.int (nI (p))), some (.int (nI (3))), some (.int (nI (k))), some (.int (nI (((259) * (k)) + (p)))), some (.int (bI (((W.1)) (((259) * (k)) + (p))))), x7] [.int (nI ((p - 1) / 6)), .int (nI ((259) * (k)))] (md_put h (((A.1), (A.2.1), (A.2.2.1), (A.2.2.2)), ((L.1), (L.2.1), (L.2.2.1), (L.2.2.2)), ((S.1), (S.2.1), (S.2.2.1), (S.2.2.2.1), (S.2.2.2.2)), ((C.1), (C.2.1), (C.2.2.1), (C.2.2.2.1), (C.2.2.2.2)), (((tB p 3 k W).1), ((tB p 3 k W).2.1), ((tB p 3 k W).2.2.1), ((tB p 3 k W).2.2.2)), ((T.1), (T.2.1), (T.2.2.1), (T.2.2.2.1), (T.2.2.2.2)))) N _
                refine e_iaddN (pc := 133) d_md_tell_133  ?_
                refine e_istore (pc := 134) d_md_tell_134 (by decide) ?_
                refine e_iload_n (pc := 136) d_md_tell_136 rfl ?_
                refine e_iconst (pc := 137) d_md_tell_137 (v := (nI (2))) rfl ?_
                refine e_icmp_eqN (pc := 138) (tgt := 174) d_md_tell_138 (by decide) (by decide) (by decide) (fun c => absurd c (by decide)) (fun _ => ?_)
                refine e_aload_n (pc := 141) d_md_tell_141 rfl ?_
                refine e_get (pc := 142) d_md_tell_142 fl_md_60 md_g42 rfl ?_
                refine e_iload (pc := 145) d_md_tell_145 rfl ?_
                refine e_zaldN (pc := 147) d_md_tell_147 (f := ((tB p 3 k W).2.1)) md_g58 (by omega) (by decide) ?_
                refine e_ifB_eq (pc := 148) (tgt := 174) d_md_tell_148 (by decide) (fun c5 => ?_) (fun c5 => ?_)
                · have eC : tC p 3 k (tB p 3 k W) = (tB p 3 k W) := by rw [tC, if_neg (fun z => by rw [show _ = true from z.2] at c5; exact nomatch c5)]
                  rw [eC]
                  refine e_iincN (pc := 174) d_md_tell_174 (a := k) (b := 1) rfl rfl (by decide) ?_
                  refine e_goto (pc := 177) (tgt := 3) d_md_tell_177 (by decide) ?_
                  exact ih (k + 1) _ _ _ _ ⟨by omega, hoB⟩
                · refine e_aload_n (pc := 151) d_md_tell_151 rfl ?_
                  refine e_iload (pc := 152) d_md_tell_152 rfl ?_
                  refine e_sipush (pc := 154) d_md_tell_154 (v := (nI (1200))) rfl ?_
                  refine e_aload_n (pc := 157) d_md_tell_157 rfl ?_
                  refine e_iload_n (pc := 158) d_md_tell_158 rfl ?_
                  refine e_callV (As := [.int (nI (p))]) (st := [.int (nI (1200)), .int (nI (k)), .ref (42)]) (cc2 := 0) (ss2 := 0) (pc := 159) d_md_tell_159 rfl cv_md_87 md_g42 rfl (c_md_parent htr hp) rfl (by decide) (by decide) (by omega) (by omega) (Nat.le_of_ble_eq_true rfl) (fun _ _ _ hq => nomatch hq.1) (fun r h2 N2 hq => ?_)
                  obtain ⟨hr, e1, e2⟩ := hq
                  cases hr
                  rw [e1, e2]
                  clear e1 e2
                  show q_Ev l G m_md_tell 1 22 0 0 162 [some (.ref (42)), some (.int (ldI srv)), some (.int (nI (p))), some (.int (nI (3))), some (.int (nI (k))), some (.int (nI (((259) * (k)) + (p)))), some (.int (bI (((W.1)) (((259) * (k)) + (p))))), some (.int (nI (((259) * (k)) + ((p - 1) / 6))))] [.int (nI ((p - 1) / 6)), .int (nI (1200)), .int (nI (k)), .ref (42)] (md_put h (((A.1), (A.2.1), (A.2.2.1), (A.2.2.2)), ((L.1), (L.2.1), (L.2.2.1), (L.2.2.2)), ((S.1), (S.2.1), (S.2.2.1), (S.2.2.2.1), (S.2.2.2.2)), ((C.1), (C.2.1), (C.2.2.1), (C.2.2.2.1), (C.2.2.2.2)), (((tB p 3 k W).1), ((tB p 3 k W).2.1), ((tB p 3 k W).2.2.1), ((tB p 3 k W).2.2.2)), ((T.1), (T.2.1), (T.2.2.1), (T.2.2.2.1), (T.2.2.2.2)))) N _
                  refine e_iaddN (pc := 162) d_md_tell_162  ?_
                  refine e_callV (As := [.int (nI (k)), .int (nI ((1200) + ((p - 1) / 6)))]) (st := []) (cc2 := 0) (ss2 := 0) (pc := 163) d_md_tell_163 rfl cv_md_102 md_g42 rfl (c_md_put htr hk4 hoB) rfl (by decide) (by decide) (by omega) (by omega) (Nat.le_of_ble_eq_true rfl) (fun _ _ _ hq => nomatch hq.1) (fun r h2 N2 hq => ?_)
                  obtain ⟨hr, e1, e2⟩ := hq
                  cases hr
                  rw [e1, e2]
                  clear e1 e2
                  show q_Ev l G m_md_tell 1 22 0 0 166 [some (.ref (42)), some (.int (ldI srv)), some (.int (nI (p))), some (.int (nI (3))), some (.int (nI (k))), some (.int (nI (((259) * (k)) + (p)))), some (.int (bI (((W.1)) (((259) * (k)) + (p))))), some (.int (nI (((259) * (k)) + ((p - 1) / 6))))] [] _ N _
                  show q_Ev l G m_md_tell 1 22 0 0 166 [some (.ref (42)), some (.int (ldI srv)), some (.int (nI (p))), some (.int (nI (3))), some (.int (nI (k))), some (.int (nI (((259) * (k)) + (p)))), some (.int (bI (((W.1)) (((259) * (k)) + (p))))), some (.int (nI (((259) * (k)) + ((p - 1) / 6))))] [] (md_put h (((A.1), (A.2.1), (A.2.2.1), (A.2.2.2)), ((L.1), (L.2.1), (L.2.2.1), (L.2.2.2)), ((S.1), (S.2.1), (S.2.2.1), (S.2.2.2.1), (S.2.2.2.2)), ((C.1), (C.2.1), (C.2.2.1), (C.2.2.2.1), (C.2.2.2.2)), (((pW k (nI (1200 + (p - 1) / 6)) (tB p 3 k W)).1), ((pW k (nI (1200 + (p - 1) / 6)) (tB p 3 k W)).2.1), ((pW k (nI (1200 + (p - 1) / 6)) (tB p 3 k W)).2.2.1), ((pW k (nI (1200 + (p - 1) / 6)) (tB p 3 k W)).2.2.2)), ((T.1), (T.2.1), (T.2.2.1), (T.2.2.2.1), (T.2.2.2.2)))) N _
                  refine e_aload_n (pc := 166) d_md_tell_166 rfl ?_
                  refine e_get (pc := 167) d_md_tell_167 fl_md_60 md_g42 rfl ?_
                  refine e_iload (pc := 170) d_md_tell_170 rfl ?_
                  refine e_iconst (pc := 172) d_md_tell_172 (v := (bI (false))) rfl ?_
                  refine e_zastN (pc := 173) d_md_tell_173 (f := ((pW k (nI (1200 + (p - 1) / 6)) (tB p 3 k W)).2.1)) md_g58 (by omega) (by decide) ?_
                  rw [md_u58]
                  show q_Ev l G m_md_tell 1 22 0 0 174 [some (.ref (42)), some (.int (ldI srv)), some (.int (nI (p))), some (.int (nI (3))), some (.int (nI (k))), some (.int (nI (((259) * (k)) + (p)))), some (.int (bI (((W.1)) (((259) * (k)) + (p))))), some (.int (nI (((259) * (k)) + ((p - 1) / 6))))] [] (md_put h (((A.1), (A.2.1), (A.2.2.1), (A.2.2.2)), ((L.1), (L.2.1), (L.2.2.1), (L.2.2.2)), ((S.1), (S.2.1), (S.2.2.1), (S.2.2.2.1), (S.2.2.2.2)), ((C.1), (C.2.1), (C.2.2.1), (C.2.2.2.1), (C.2.2.2.2)), (((pW k (nI (1200 + (p - 1) / 6)) (tB p 3 k W)).1), (va_up (((pW k (nI (1200 + (p - 1) / 6)) (tB p 3 k W)).2.1)) (((259) * (k)) + ((p - 1) / 6)) (false)), ((pW k (nI (1200 + (p - 1) / 6)) (tB p 3 k W)).2.2.1), ((pW k (nI (1200 + (p - 1) / 6)) (tB p 3 k W)).2.2.2)), ((T.1), (T.2.1), (T.2.2.1), (T.2.2.2.1), (T.2.2.2.2)))) N _
                  refine e_iincN (pc := 174) d_md_tell_174 (a := k) (b := 1) rfl rfl (by decide) ?_
                  refine e_goto (pc := 177) (tgt := 3) d_md_tell_177 (by decide) ?_
                  have eC : tC p 3 k (tB p 3 k W) = ((pW k (nI (1200 + (p - 1) / 6)) (tB p 3 k W)).1, va_up (pW k (nI (1200 + (p - 1) / 6)) (tB p 3 k W)).2.1 (259 * k + (p - 1) / 6) false, (pW k (nI (1200 + (p - 1) / 6)) (tB p 3 k W)).2.2) := by rw [tC, if_pos ⟨by decide, c5⟩]
                  rw [eC]
                  exact ih (k + 1) ((pW k (nI (1200 + (p - 1) / 6)) (tB p 3 k W)).1, va_up (pW k (nI (1200 + (p - 1) / 6)) (tB p 3 k W)).2.1 (259 * k + (p - 1) / 6) false, (pW k (nI (1200 + (p - 1) / 6)) (tB p 3 k W)).2.2) _ _ _ ⟨by omega, fun j hj => pW_o (s := k) (v := nI (1200 + (p - 1) / 6)) hoB j hj⟩
              · refine e_aload_n (pc := 90) d_md_tell_90 rfl ?_
                refine e_iload (pc := 91) d_md_tell_91 rfl ?_
                refine e_sipush (pc := 93) d_md_tell_93 (v := (nI (900))) rfl ?_
                refine e_iload_n (pc := 96) d_md_tell_96 rfl ?_
                refine e_iaddN (pc := 97) d_md_tell_97  ?_
                refine e_callV (As := [.int (nI (k)), .int (nI ((900) + (p)))]) (st := []) (cc2 := 0) (ss2 := 0) (pc := 98) d_md_tell_98 rfl cv_md_102 md_g42 rfl (c_md_put htr hk4 hW) rfl (by decide) (by decide) (by omega) (by omega) (Nat.le_of_ble_eq_true rfl) (fun _ _ _ hq => nomatch hq.1) (fun r h2 N2 hq => ?_)
                obtain ⟨hr, e1, e2⟩ := hq
                cases hr
                rw [e1, e2]
                clear e1 e2
                show q_Ev l G m_md_tell 1 22 0 0 101 [some (.ref (42)), some (.int (ldI srv)), some (.int (nI (p))), some (.int (nI (3))), some (.int (nI (k))), some (.int (nI (((259) * (k)) + (p)))), some (.int (bI (((W.1)) (((259) * (k)) + (p))))), x7] [] _ N _
                show q_Ev l G m_md_tell 1 22 0 0 101 [some (.ref (42)), some (.int (ldI srv)), some (.int (nI (p))), some (.int (nI (3))), some (.int (nI (k))), some (.int (nI (((259) * (k)) + (p)))), some (.int (bI (((W.1)) (((259) * (k)) + (p))))), x7] [] (md_put h (((A.1), (A.2.1), (A.2.2.1), (A.2.2.2)), ((L.1), (L.2.1), (L.2.2.1), (L.2.2.2)), ((S.1), (S.2.1), (S.2.2.1), (S.2.2.2.1), (S.2.2.2.2)), ((C.1), (C.2.1), (C.2.2.1), (C.2.2.2.1), (C.2.2.2.2)), (((pW k (nI (900 + p)) W).1), ((pW k (nI (900 + p)) W).2.1), ((pW k (nI (900 + p)) W).2.2.1), ((pW k (nI (900 + p)) W).2.2.2)), ((T.1), (T.2.1), (T.2.2.1), (T.2.2.2.1), (T.2.2.2.2)))) N _
                have eA : tA p 3 k W = (pW k (nI (900 + p)) W) := by rw [tA, if_neg (by rw [c3]; decide), if_pos ⟨rfl, c4⟩]
                rw [eA]
                rw [eA] at hoA
                refine e_iload_n (pc := 101) d_md_tell_101 rfl ?_
                refine e_iconst (pc := 102) d_md_tell_102 (v := (nI (3))) rfl ?_
                refine e_icmp_neN (pc := 103) (tgt := 114) d_md_tell_103 (by decide) (by decide) (by decide) (fun c => absurd c (by decide)) (fun _ => ?_)
                refine e_aload_n (pc := 106) d_md_tell_106 rfl ?_
                refine e_get (pc := 107) d_md_tell_107 fl_md_60 md_g42 rfl ?_
                refine e_iload (pc := 110) d_md_tell_110 rfl ?_
                refine e_iconst (pc := 112) d_md_tell_112 (v := (bI (false))) rfl ?_
                refine e_zastN (pc := 113) d_md_tell_113 (f := ((pW k (nI (900 + p)) W).2.1)) md_g58 (by omega) (by decide) ?_
                rw [md_u58]
                show q_Ev l G m_md_tell 1 22 0 0 114 [some (.ref (42)), some (.int (ldI srv)), some (.int (nI (p))), some (.int (nI (3))), some (.int (nI (k))), some (.int (nI (((259) * (k)) + (p)))), some (.int (bI (((W.1)) (((259) * (k)) + (p))))), x7] [] (md_put h (((A.1), (A.2.1), (A.2.2.1), (A.2.2.2)), ((L.1), (L.2.1), (L.2.2.1), (L.2.2.2)), ((S.1), (S.2.1), (S.2.2.1), (S.2.2.2.1), (S.2.2.2.2)), ((C.1), (C.2.1), (C.2.2.1), (C.2.2.2.1), (C.2.2.2.2)), (((pW k (nI (900 + p)) W).1), (va_up (((pW k (nI (900 + p)) W).2.1)) (((259) * (k)) + (p)) (false)), ((pW k (nI (900 + p)) W).2.2.1), ((pW k (nI (900 + p)) W).2.2.2)), ((T.1), (T.2.1), (T.2.2.1), (T.2.2.2.1), (T.2.2.2.2)))) N _
                refine e_aload_n (pc := 114) d_md_tell_114 rfl ?_
                refine e_get (pc := 115) d_md_tell_115 fl_md_57 md_g42 rfl ?_
                refine e_iload (pc := 118) d_md_tell_118 rfl ?_
                refine e_iconst (pc := 120) d_md_tell_120 (v := (bI (false))) rfl ?_
                refine e_zastN (pc := 121) d_md_tell_121 (f := ((pW k (nI (900 + p)) W).1)) md_g57 (by omega) (by decide) ?_
                rw [md_u57]
                show q_Ev l G m_md_tell 1 22 0 0 122 [some (.ref (42)), some (.int (ldI srv)), some (.int (nI (p))), some (.int (nI (3))), some (.int (nI (k))), some (.int (nI (((259) * (k)) + (p)))), some (.int (bI (((W.1)) (((259) * (k)) + (p))))), x7] [] (md_put h (((A.1), (A.2.1), (A.2.2.1), (A.2.2.2)), ((L.1), (L.2.1), (L.2.2.1), (L.2.2.2)), ((S.1), (S.2.1), (S.2.2.1), (S.2.2.2.1), (S.2.2.2.2)), ((C.1), (C.2.1), (C.2.2.1), (C.2.2.2.1), (C.2.2.2.2)), ((va_up (((pW k (nI (900 + p)) W).1)) (((259) * (k)) + (p)) (false)), (va_up (((pW k (nI (900 + p)) W).2.1)) (((259) * (k)) + (p)) (false)), ((pW k (nI (900 + p)) W).2.2.1), ((pW k (nI (900 + p)) W).2.2.2)), ((T.1), (T.2.1), (T.2.2.1), (T.2.2.2.1), (T.2.2.2.2)))) N _
                show q_Ev l G m_md_tell 1 22 0 0 122 [some (.ref (42)), some (.int (ldI srv)), some (.int (nI (p))), some (.int (nI (3))), some (.int (nI (k))), some (.int (nI (((259) * (k)) + (p)))), some (.int (bI (((W.1)) (((259) * (k)) + (p))))), x7] [] (md_put h (((A.1), (A.2.1), (A.2.2.1), (A.2.2.2)), ((L.1), (L.2.1), (L.2.2.1), (L.2.2.2)), ((S.1), (S.2.1), (S.2.2.1), (S.2.2.2.1), (S.2.2.2.2)), ((C.1), (C.2.1), (C.2.2.1), (C.2.2.2.1), (C.2.2.2.2)), (((tB p 3 k (pW k (nI (900 + p)) W)).1), ((tB p 3 k (pW k (nI (900 + p)) W)).2.1), ((tB p 3 k (pW k (nI (900 + p)) W)).2.2.1), ((tB p 3 k (pW k (nI (900 + p)) W)).2.2.2)), ((T.1), (T.2.1), (T.2.2.1), (T.2.2.2.1), (T.2.2.2.2)))) N _
                have hoB : mWo (tB p 3 k (pW k (nI (900 + p)) W)) := fun j hj => hoA j hj
                refine e_sipush (pc := 122) d_md_tell_122 (v := (nI (259))) rfl ?_
                refine e_iload (pc := 125) d_md_tell_125 rfl ?_
                refine e_imulN (pc := 127) d_md_tell_127  ?_
                refine e_aload_n (pc := 128) d_md_tell_128 rfl ?_
                refine e_iload_n (pc := 129) d_md_tell_129 rfl ?_
                refine e_callV (As := [.int (nI (p))]) (st := [.int (nI ((259) * (k)))]) (cc2 := 0) (ss2 := 0) (pc := 130) d_md_tell_130 rfl cv_md_87 md_g42 rfl (c_md_parent htr hp) rfl (by decide) (by decide) (by omega) (by omega) (Nat.le_of_ble_eq_true rfl) (fun _ _ _ hq => nomatch hq.1) (fun r h2 N2 hq => ?_)
                obtain ⟨hr, e1, e2⟩ := hq
                cases hr
                rw [e1, e2]
                clear e1 e2
                show q_Ev l G m_md_tell 1 22 0 0 133 [some (.ref (42)), some (.int (ldI srv)), some (.int (nI (p))), some (.int (nI (3))), some (.int (nI (k))), some (.int (nI (((259) * (k)) + (p)))), some (.int (bI (((W.1)) (((259) * (k)) + (p))))), x7] [.int (nI ((p - 1) / 6)), .int (nI ((259) * (k)))] (md_put h (((A.1), (A.2.1), (A.2.2.1), (A.2.2.2)), ((L.1), (L.2.1), (L.2.2.1), (L.2.2.2)), ((S.1), (S.2.1), (S.2.2.1), (S.2.2.2.1), (S.2.2.2.2)), ((C.1), (C.2.1), (C.2.2.1), (C.2.2.2.1), (C.2.2.2.2)), (((tB p 3 k (pW k (nI (900 + p)) W)).1), ((tB p 3 k (pW k (nI (900 + p)) W)).2.1), ((tB p 3 k (pW k (nI (900 + p)) W)).2.2.1), ((tB p 3 k (pW k (nI (900 + p)) W)).2.2.2)), ((T.1), (T.2.1), (T.2.2.1), (T.2.2.2.1), (T.2.2.2.2)))) N _
                refine e_iaddN (pc := 133) d_md_tell_133  ?_
                refine e_istore (pc := 134) d_md_tell_134 (by decide) ?_
                refine e_iload_n (pc := 136) d_md_tell_136 rfl ?_
                refine e_iconst (pc := 137) d_md_tell_137 (v := (nI (2))) rfl ?_
                refine e_icmp_eqN (pc := 138) (tgt := 174) d_md_tell_138 (by decide) (by decide) (by decide) (fun c => absurd c (by decide)) (fun _ => ?_)
                refine e_aload_n (pc := 141) d_md_tell_141 rfl ?_
                refine e_get (pc := 142) d_md_tell_142 fl_md_60 md_g42 rfl ?_
                refine e_iload (pc := 145) d_md_tell_145 rfl ?_
                refine e_zaldN (pc := 147) d_md_tell_147 (f := ((tB p 3 k (pW k (nI (900 + p)) W)).2.1)) md_g58 (by omega) (by decide) ?_
                refine e_ifB_eq (pc := 148) (tgt := 174) d_md_tell_148 (by decide) (fun c5 => ?_) (fun c5 => ?_)
                · have eC : tC p 3 k (tB p 3 k (pW k (nI (900 + p)) W)) = (tB p 3 k (pW k (nI (900 + p)) W)) := by rw [tC, if_neg (fun z => by rw [show _ = true from z.2] at c5; exact nomatch c5)]
                  rw [eC]
                  refine e_iincN (pc := 174) d_md_tell_174 (a := k) (b := 1) rfl rfl (by decide) ?_
                  refine e_goto (pc := 177) (tgt := 3) d_md_tell_177 (by decide) ?_
                  exact ih (k + 1) _ _ _ _ ⟨by omega, hoB⟩
                · refine e_aload_n (pc := 151) d_md_tell_151 rfl ?_
                  refine e_iload (pc := 152) d_md_tell_152 rfl ?_
                  refine e_sipush (pc := 154) d_md_tell_154 (v := (nI (1200))) rfl ?_
                  refine e_aload_n (pc := 157) d_md_tell_157 rfl ?_
                  refine e_iload_n (pc := 158) d_md_tell_158 rfl ?_
                  refine e_callV (As := [.int (nI (p))]) (st := [.int (nI (1200)), .int (nI (k)), .ref (42)]) (cc2 := 0) (ss2 := 0) (pc := 159) d_md_tell_159 rfl cv_md_87 md_g42 rfl (c_md_parent htr hp) rfl (by decide) (by decide) (by omega) (by omega) (Nat.le_of_ble_eq_true rfl) (fun _ _ _ hq => nomatch hq.1) (fun r h2 N2 hq => ?_)
                  obtain ⟨hr, e1, e2⟩ := hq
                  cases hr
                  rw [e1, e2]
                  clear e1 e2
                  show q_Ev l G m_md_tell 1 22 0 0 162 [some (.ref (42)), some (.int (ldI srv)), some (.int (nI (p))), some (.int (nI (3))), some (.int (nI (k))), some (.int (nI (((259) * (k)) + (p)))), some (.int (bI (((W.1)) (((259) * (k)) + (p))))), some (.int (nI (((259) * (k)) + ((p - 1) / 6))))] [.int (nI ((p - 1) / 6)), .int (nI (1200)), .int (nI (k)), .ref (42)] (md_put h (((A.1), (A.2.1), (A.2.2.1), (A.2.2.2)), ((L.1), (L.2.1), (L.2.2.1), (L.2.2.2)), ((S.1), (S.2.1), (S.2.2.1), (S.2.2.2.1), (S.2.2.2.2)), ((C.1), (C.2.1), (C.2.2.1), (C.2.2.2.1), (C.2.2.2.2)), (((tB p 3 k (pW k (nI (900 + p)) W)).1), ((tB p 3 k (pW k (nI (900 + p)) W)).2.1), ((tB p 3 k (pW k (nI (900 + p)) W)).2.2.1), ((tB p 3 k (pW k (nI (900 + p)) W)).2.2.2)), ((T.1), (T.2.1), (T.2.2.1), (T.2.2.2.1), (T.2.2.2.2)))) N _
                  refine e_iaddN (pc := 162) d_md_tell_162  ?_
                  refine e_callV (As := [.int (nI (k)), .int (nI ((1200) + ((p - 1) / 6)))]) (st := []) (cc2 := 0) (ss2 := 0) (pc := 163) d_md_tell_163 rfl cv_md_102 md_g42 rfl (c_md_put htr hk4 hoB) rfl (by decide) (by decide) (by omega) (by omega) (Nat.le_of_ble_eq_true rfl) (fun _ _ _ hq => nomatch hq.1) (fun r h2 N2 hq => ?_)
                  obtain ⟨hr, e1, e2⟩ := hq
                  cases hr
                  rw [e1, e2]
                  clear e1 e2
                  show q_Ev l G m_md_tell 1 22 0 0 166 [some (.ref (42)), some (.int (ldI srv)), some (.int (nI (p))), some (.int (nI (3))), some (.int (nI (k))), some (.int (nI (((259) * (k)) + (p)))), some (.int (bI (((W.1)) (((259) * (k)) + (p))))), some (.int (nI (((259) * (k)) + ((p - 1) / 6))))] [] _ N _
                  show q_Ev l G m_md_tell 1 22 0 0 166 [some (.ref (42)), some (.int (ldI srv)), some (.int (nI (p))), some (.int (nI (3))), some (.int (nI (k))), some (.int (nI (((259) * (k)) + (p)))), some (.int (bI (((W.1)) (((259) * (k)) + (p))))), some (.int (nI (((259) * (k)) + ((p - 1) / 6))))] [] (md_put h (((A.1), (A.2.1), (A.2.2.1), (A.2.2.2)), ((L.1), (L.2.1), (L.2.2.1), (L.2.2.2)), ((S.1), (S.2.1), (S.2.2.1), (S.2.2.2.1), (S.2.2.2.2)), ((C.1), (C.2.1), (C.2.2.1), (C.2.2.2.1), (C.2.2.2.2)), (((pW k (nI (1200 + (p - 1) / 6)) (tB p 3 k (pW k (nI (900 + p)) W))).1), ((pW k (nI (1200 + (p - 1) / 6)) (tB p 3 k (pW k (nI (900 + p)) W))).2.1), ((pW k (nI (1200 + (p - 1) / 6)) (tB p 3 k (pW k (nI (900 + p)) W))).2.2.1), ((pW k (nI (1200 + (p - 1) / 6)) (tB p 3 k (pW k (nI (900 + p)) W))).2.2.2)), ((T.1), (T.2.1), (T.2.2.1), (T.2.2.2.1), (T.2.2.2.2)))) N _
                  refine e_aload_n (pc := 166) d_md_tell_166 rfl ?_
                  refine e_get (pc := 167) d_md_tell_167 fl_md_60 md_g42 rfl ?_
                  refine e_iload (pc := 170) d_md_tell_170 rfl ?_
                  refine e_iconst (pc := 172) d_md_tell_172 (v := (bI (false))) rfl ?_
                  refine e_zastN (pc := 173) d_md_tell_173 (f := ((pW k (nI (1200 + (p - 1) / 6)) (tB p 3 k (pW k (nI (900 + p)) W))).2.1)) md_g58 (by omega) (by decide) ?_
                  rw [md_u58]
                  show q_Ev l G m_md_tell 1 22 0 0 174 [some (.ref (42)), some (.int (ldI srv)), some (.int (nI (p))), some (.int (nI (3))), some (.int (nI (k))), some (.int (nI (((259) * (k)) + (p)))), some (.int (bI (((W.1)) (((259) * (k)) + (p))))), some (.int (nI (((259) * (k)) + ((p - 1) / 6))))] [] (md_put h (((A.1), (A.2.1), (A.2.2.1), (A.2.2.2)), ((L.1), (L.2.1), (L.2.2.1), (L.2.2.2)), ((S.1), (S.2.1), (S.2.2.1), (S.2.2.2.1), (S.2.2.2.2)), ((C.1), (C.2.1), (C.2.2.1), (C.2.2.2.1), (C.2.2.2.2)), (((pW k (nI (1200 + (p - 1) / 6)) (tB p 3 k (pW k (nI (900 + p)) W))).1), (va_up (((pW k (nI (1200 + (p - 1) / 6)) (tB p 3 k (pW k (nI (900 + p)) W))).2.1)) (((259) * (k)) + ((p - 1) / 6)) (false)), ((pW k (nI (1200 + (p - 1) / 6)) (tB p 3 k (pW k (nI (900 + p)) W))).2.2.1), ((pW k (nI (1200 + (p - 1) / 6)) (tB p 3 k (pW k (nI (900 + p)) W))).2.2.2)), ((T.1), (T.2.1), (T.2.2.1), (T.2.2.2.1), (T.2.2.2.2)))) N _
                  refine e_iincN (pc := 174) d_md_tell_174 (a := k) (b := 1) rfl rfl (by decide) ?_
                  refine e_goto (pc := 177) (tgt := 3) d_md_tell_177 (by decide) ?_
                  have eC : tC p 3 k (tB p 3 k (pW k (nI (900 + p)) W)) = ((pW k (nI (1200 + (p - 1) / 6)) (tB p 3 k (pW k (nI (900 + p)) W))).1, va_up (pW k (nI (1200 + (p - 1) / 6)) (tB p 3 k (pW k (nI (900 + p)) W))).2.1 (259 * k + (p - 1) / 6) false, (pW k (nI (1200 + (p - 1) / 6)) (tB p 3 k (pW k (nI (900 + p)) W))).2.2) := by rw [tC, if_pos ⟨by decide, c5⟩]
                  rw [eC]
                  exact ih (k + 1) ((pW k (nI (1200 + (p - 1) / 6)) (tB p 3 k (pW k (nI (900 + p)) W))).1, va_up (pW k (nI (1200 + (p - 1) / 6)) (tB p 3 k (pW k (nI (900 + p)) W))).2.1 (259 * k + (p - 1) / 6) false, (pW k (nI (1200 + (p - 1) / 6)) (tB p 3 k (pW k (nI (900 + p)) W))).2.2) _ _ _ ⟨by omega, fun j hj => pW_o (s := k) (v := nI (1200 + (p - 1) / 6)) hoB j hj⟩
          · refine e_aload_n (pc := 57) d_md_tell_57 rfl ?_
            refine e_iload (pc := 58) d_md_tell_58 rfl ?_
            refine e_sipush (pc := 60) d_md_tell_60 (v := (nI (300))) rfl ?_
            refine e_iload_n (pc := 63) d_md_tell_63 rfl ?_
            refine e_imulN (pc := 64) d_md_tell_64  ?_
            refine e_iload_n (pc := 65) d_md_tell_65 rfl ?_
            refine e_iaddN (pc := 66) d_md_tell_66  ?_
            refine e_callV (As := [.int (nI (k)), .int (nI (((300) * (3)) + (p)))]) (st := []) (cc2 := 0) (ss2 := 0) (pc := 67) d_md_tell_67 rfl cv_md_102 md_g42 rfl (c_md_put htr hk4 hW) rfl (by decide) (by decide) (by omega) (by omega) (Nat.le_of_ble_eq_true rfl) (fun _ _ _ hq => nomatch hq.1) (fun r h2 N2 hq => ?_)
            obtain ⟨hr, e1, e2⟩ := hq
            cases hr
            rw [e1, e2]
            clear e1 e2
            show q_Ev l G m_md_tell 1 22 0 0 70 [some (.ref (42)), some (.int (ldI srv)), some (.int (nI (p))), some (.int (nI (3))), some (.int (nI (k))), some (.int (nI (((259) * (k)) + (p)))), some (.int (bI (((W.1)) (((259) * (k)) + (p))))), x7] [] _ N _
            show q_Ev l G m_md_tell 1 22 0 0 70 [some (.ref (42)), some (.int (ldI srv)), some (.int (nI (p))), some (.int (nI (3))), some (.int (nI (k))), some (.int (nI (((259) * (k)) + (p)))), some (.int (bI (((W.1)) (((259) * (k)) + (p))))), x7] [] (md_put h (((A.1), (A.2.1), (A.2.2.1), (A.2.2.2)), ((L.1), (L.2.1), (L.2.2.1), (L.2.2.2)), ((S.1), (S.2.1), (S.2.2.1), (S.2.2.2.1), (S.2.2.2.2)), ((C.1), (C.2.1), (C.2.2.1), (C.2.2.2.1), (C.2.2.2.2)), (((pW k (nI (300 * 3 + p)) W).1), ((pW k (nI (300 * 3 + p)) W).2.1), ((pW k (nI (300 * 3 + p)) W).2.2.1), ((pW k (nI (300 * 3 + p)) W).2.2.2)), ((T.1), (T.2.1), (T.2.2.1), (T.2.2.2.1), (T.2.2.2.2)))) N _
            refine e_iload_n (pc := 70) d_md_tell_70 rfl ?_
            refine e_iconst (pc := 71) d_md_tell_71 (v := (nI (3))) rfl ?_
            refine e_icmp_neN (pc := 72) (tgt := 101) d_md_tell_72 (by decide) (by decide) (by decide) (fun c => absurd c (by decide)) (fun _ => ?_)
            refine e_iload (pc := 75) d_md_tell_75 rfl ?_
            refine e_ifB_ne (pc := 77) (tgt := 101) d_md_tell_77 (by decide) (fun c3b => ?_) (fun c3b => ?_)
            · have eA : tA p 3 k W = (pW k (nI (300 * 3 + p)) W) := by rw [tA, if_pos c3]
              rw [eA]
              rw [eA] at hoA
              refine e_iload_n (pc := 101) d_md_tell_101 rfl ?_
              refine e_iconst (pc := 102) d_md_tell_102 (v := (nI (3))) rfl ?_
              refine e_icmp_neN (pc := 103) (tgt := 114) d_md_tell_103 (by decide) (by decide) (by decide) (fun c => absurd c (by decide)) (fun _ => ?_)
              refine e_aload_n (pc := 106) d_md_tell_106 rfl ?_
              refine e_get (pc := 107) d_md_tell_107 fl_md_60 md_g42 rfl ?_
              refine e_iload (pc := 110) d_md_tell_110 rfl ?_
              refine e_iconst (pc := 112) d_md_tell_112 (v := (bI (false))) rfl ?_
              refine e_zastN (pc := 113) d_md_tell_113 (f := ((pW k (nI (300 * 3 + p)) W).2.1)) md_g58 (by omega) (by decide) ?_
              rw [md_u58]
              show q_Ev l G m_md_tell 1 22 0 0 114 [some (.ref (42)), some (.int (ldI srv)), some (.int (nI (p))), some (.int (nI (3))), some (.int (nI (k))), some (.int (nI (((259) * (k)) + (p)))), some (.int (bI (((W.1)) (((259) * (k)) + (p))))), x7] [] (md_put h (((A.1), (A.2.1), (A.2.2.1), (A.2.2.2)), ((L.1), (L.2.1), (L.2.2.1), (L.2.2.2)), ((S.1), (S.2.1), (S.2.2.1), (S.2.2.2.1), (S.2.2.2.2)), ((C.1), (C.2.1), (C.2.2.1), (C.2.2.2.1), (C.2.2.2.2)), (((pW k (nI (300 * 3 + p)) W).1), (va_up (((pW k (nI (300 * 3 + p)) W).2.1)) (((259) * (k)) + (p)) (false)), ((pW k (nI (300 * 3 + p)) W).2.2.1), ((pW k (nI (300 * 3 + p)) W).2.2.2)), ((T.1), (T.2.1), (T.2.2.1), (T.2.2.2.1), (T.2.2.2.2)))) N _
              refine e_aload_n (pc := 114) d_md_tell_114 rfl ?_
              refine e_get (pc := 115) d_md_tell_115 fl_md_57 md_g42 rfl ?_
              refine e_iload (pc := 118) d_md_tell_118 rfl ?_
              refine e_iconst (pc := 120) d_md_tell_120 (v := (bI (false))) rfl ?_
              refine e_zastN (pc := 121) d_md_tell_121 (f := ((pW k (nI (300 * 3 + p)) W).1)) md_g57 (by omega) (by decide) ?_
              rw [md_u57]
              show q_Ev l G m_md_tell 1 22 0 0 122 [some (.ref (42)), some (.int (ldI srv)), some (.int (nI (p))), some (.int (nI (3))), some (.int (nI (k))), some (.int (nI (((259) * (k)) + (p)))), some (.int (bI (((W.1)) (((259) * (k)) + (p))))), x7] [] (md_put h (((A.1), (A.2.1), (A.2.2.1), (A.2.2.2)), ((L.1), (L.2.1), (L.2.2.1), (L.2.2.2)), ((S.1), (S.2.1), (S.2.2.1), (S.2.2.2.1), (S.2.2.2.2)), ((C.1), (C.2.1), (C.2.2.1), (C.2.2.2.1), (C.2.2.2.2)), ((va_up (((pW k (nI (300 * 3 + p)) W).1)) (((259) * (k)) + (p)) (false)), (va_up (((pW k (nI (300 * 3 + p)) W).2.1)) (((259) * (k)) + (p)) (false)), ((pW k (nI (300 * 3 + p)) W).2.2.1), ((pW k (nI (300 * 3 + p)) W).2.2.2)), ((T.1), (T.2.1), (T.2.2.1), (T.2.2.2.1), (T.2.2.2.2)))) N _
              show q_Ev l G m_md_tell 1 22 0 0 122 [some (.ref (42)), some (.int (ldI srv)), some (.int (nI (p))), some (.int (nI (3))), some (.int (nI (k))), some (.int (nI (((259) * (k)) + (p)))), some (.int (bI (((W.1)) (((259) * (k)) + (p))))), x7] [] (md_put h (((A.1), (A.2.1), (A.2.2.1), (A.2.2.2)), ((L.1), (L.2.1), (L.2.2.1), (L.2.2.2)), ((S.1), (S.2.1), (S.2.2.1), (S.2.2.2.1), (S.2.2.2.2)), ((C.1), (C.2.1), (C.2.2.1), (C.2.2.2.1), (C.2.2.2.2)), (((tB p 3 k (pW k (nI (300 * 3 + p)) W)).1), ((tB p 3 k (pW k (nI (300 * 3 + p)) W)).2.1), ((tB p 3 k (pW k (nI (300 * 3 + p)) W)).2.2.1), ((tB p 3 k (pW k (nI (300 * 3 + p)) W)).2.2.2)), ((T.1), (T.2.1), (T.2.2.1), (T.2.2.2.1), (T.2.2.2.2)))) N _
              have hoB : mWo (tB p 3 k (pW k (nI (300 * 3 + p)) W)) := fun j hj => hoA j hj
              refine e_sipush (pc := 122) d_md_tell_122 (v := (nI (259))) rfl ?_
              refine e_iload (pc := 125) d_md_tell_125 rfl ?_
              refine e_imulN (pc := 127) d_md_tell_127  ?_
              refine e_aload_n (pc := 128) d_md_tell_128 rfl ?_
              refine e_iload_n (pc := 129) d_md_tell_129 rfl ?_
              refine e_callV (As := [.int (nI (p))]) (st := [.int (nI ((259) * (k)))]) (cc2 := 0) (ss2 := 0) (pc := 130) d_md_tell_130 rfl cv_md_87 md_g42 rfl (c_md_parent htr hp) rfl (by decide) (by decide) (by omega) (by omega) (Nat.le_of_ble_eq_true rfl) (fun _ _ _ hq => nomatch hq.1) (fun r h2 N2 hq => ?_)
              obtain ⟨hr, e1, e2⟩ := hq
              cases hr
              rw [e1, e2]
              clear e1 e2
              show q_Ev l G m_md_tell 1 22 0 0 133 [some (.ref (42)), some (.int (ldI srv)), some (.int (nI (p))), some (.int (nI (3))), some (.int (nI (k))), some (.int (nI (((259) * (k)) + (p)))), some (.int (bI (((W.1)) (((259) * (k)) + (p))))), x7] [.int (nI ((p - 1) / 6)), .int (nI ((259) * (k)))] (md_put h (((A.1), (A.2.1), (A.2.2.1), (A.2.2.2)), ((L.1), (L.2.1), (L.2.2.1), (L.2.2.2)), ((S.1), (S.2.1), (S.2.2.1), (S.2.2.2.1), (S.2.2.2.2)), ((C.1), (C.2.1), (C.2.2.1), (C.2.2.2.1), (C.2.2.2.2)), (((tB p 3 k (pW k (nI (300 * 3 + p)) W)).1), ((tB p 3 k (pW k (nI (300 * 3 + p)) W)).2.1), ((tB p 3 k (pW k (nI (300 * 3 + p)) W)).2.2.1), ((tB p 3 k (pW k (nI (300 * 3 + p)) W)).2.2.2)), ((T.1), (T.2.1), (T.2.2.1), (T.2.2.2.1), (T.2.2.2.2)))) N _
              refine e_iaddN (pc := 133) d_md_tell_133  ?_
              refine e_istore (pc := 134) d_md_tell_134 (by decide) ?_
              refine e_iload_n (pc := 136) d_md_tell_136 rfl ?_
              refine e_iconst (pc := 137) d_md_tell_137 (v := (nI (2))) rfl ?_
              refine e_icmp_eqN (pc := 138) (tgt := 174) d_md_tell_138 (by decide) (by decide) (by decide) (fun c => absurd c (by decide)) (fun _ => ?_)
              refine e_aload_n (pc := 141) d_md_tell_141 rfl ?_
              refine e_get (pc := 142) d_md_tell_142 fl_md_60 md_g42 rfl ?_
              refine e_iload (pc := 145) d_md_tell_145 rfl ?_
              refine e_zaldN (pc := 147) d_md_tell_147 (f := ((tB p 3 k (pW k (nI (300 * 3 + p)) W)).2.1)) md_g58 (by omega) (by decide) ?_
              refine e_ifB_eq (pc := 148) (tgt := 174) d_md_tell_148 (by decide) (fun c5 => ?_) (fun c5 => ?_)
              · have eC : tC p 3 k (tB p 3 k (pW k (nI (300 * 3 + p)) W)) = (tB p 3 k (pW k (nI (300 * 3 + p)) W)) := by rw [tC, if_neg (fun z => by rw [show _ = true from z.2] at c5; exact nomatch c5)]
                rw [eC]
                refine e_iincN (pc := 174) d_md_tell_174 (a := k) (b := 1) rfl rfl (by decide) ?_
                refine e_goto (pc := 177) (tgt := 3) d_md_tell_177 (by decide) ?_
                exact ih (k + 1) _ _ _ _ ⟨by omega, hoB⟩
              · refine e_aload_n (pc := 151) d_md_tell_151 rfl ?_
                refine e_iload (pc := 152) d_md_tell_152 rfl ?_
                refine e_sipush (pc := 154) d_md_tell_154 (v := (nI (1200))) rfl ?_
                refine e_aload_n (pc := 157) d_md_tell_157 rfl ?_
                refine e_iload_n (pc := 158) d_md_tell_158 rfl ?_
                refine e_callV (As := [.int (nI (p))]) (st := [.int (nI (1200)), .int (nI (k)), .ref (42)]) (cc2 := 0) (ss2 := 0) (pc := 159) d_md_tell_159 rfl cv_md_87 md_g42 rfl (c_md_parent htr hp) rfl (by decide) (by decide) (by omega) (by omega) (Nat.le_of_ble_eq_true rfl) (fun _ _ _ hq => nomatch hq.1) (fun r h2 N2 hq => ?_)
                obtain ⟨hr, e1, e2⟩ := hq
                cases hr
                rw [e1, e2]
                clear e1 e2
                show q_Ev l G m_md_tell 1 22 0 0 162 [some (.ref (42)), some (.int (ldI srv)), some (.int (nI (p))), some (.int (nI (3))), some (.int (nI (k))), some (.int (nI (((259) * (k)) + (p)))), some (.int (bI (((W.1)) (((259) * (k)) + (p))))), some (.int (nI (((259) * (k)) + ((p - 1) / 6))))] [.int (nI ((p - 1) / 6)), .int (nI (1200)), .int (nI (k)), .ref (42)] (md_put h (((A.1), (A.2.1), (A.2.2.1), (A.2.2.2)), ((L.1), (L.2.1), (L.2.2.1), (L.2.2.2)), ((S.1), (S.2.1), (S.2.2.1), (S.2.2.2.1), (S.2.2.2.2)), ((C.1), (C.2.1), (C.2.2.1), (C.2.2.2.1), (C.2.2.2.2)), (((tB p 3 k (pW k (nI (300 * 3 + p)) W)).1), ((tB p 3 k (pW k (nI (300 * 3 + p)) W)).2.1), ((tB p 3 k (pW k (nI (300 * 3 + p)) W)).2.2.1), ((tB p 3 k (pW k (nI (300 * 3 + p)) W)).2.2.2)), ((T.1), (T.2.1), (T.2.2.1), (T.2.2.2.1), (T.2.2.2.2)))) N _
                refine e_iaddN (pc := 162) d_md_tell_162  ?_
                refine e_callV (As := [.int (nI (k)), .int (nI ((1200) + ((p - 1) / 6)))]) (st := []) (cc2 := 0) (ss2 := 0) (pc := 163) d_md_tell_163 rfl cv_md_102 md_g42 rfl (c_md_put htr hk4 hoB) rfl (by decide) (by decide) (by omega) (by omega) (Nat.le_of_ble_eq_true rfl) (fun _ _ _ hq => nomatch hq.1) (fun r h2 N2 hq => ?_)
                obtain ⟨hr, e1, e2⟩ := hq
                cases hr
                rw [e1, e2]
                clear e1 e2
                show q_Ev l G m_md_tell 1 22 0 0 166 [some (.ref (42)), some (.int (ldI srv)), some (.int (nI (p))), some (.int (nI (3))), some (.int (nI (k))), some (.int (nI (((259) * (k)) + (p)))), some (.int (bI (((W.1)) (((259) * (k)) + (p))))), some (.int (nI (((259) * (k)) + ((p - 1) / 6))))] [] _ N _
                show q_Ev l G m_md_tell 1 22 0 0 166 [some (.ref (42)), some (.int (ldI srv)), some (.int (nI (p))), some (.int (nI (3))), some (.int (nI (k))), some (.int (nI (((259) * (k)) + (p)))), some (.int (bI (((W.1)) (((259) * (k)) + (p))))), some (.int (nI (((259) * (k)) + ((p - 1) / 6))))] [] (md_put h (((A.1), (A.2.1), (A.2.2.1), (A.2.2.2)), ((L.1), (L.2.1), (L.2.2.1), (L.2.2.2)), ((S.1), (S.2.1), (S.2.2.1), (S.2.2.2.1), (S.2.2.2.2)), ((C.1), (C.2.1), (C.2.2.1), (C.2.2.2.1), (C.2.2.2.2)), (((pW k (nI (1200 + (p - 1) / 6)) (tB p 3 k (pW k (nI (300 * 3 + p)) W))).1), ((pW k (nI (1200 + (p - 1) / 6)) (tB p 3 k (pW k (nI (300 * 3 + p)) W))).2.1), ((pW k (nI (1200 + (p - 1) / 6)) (tB p 3 k (pW k (nI (300 * 3 + p)) W))).2.2.1), ((pW k (nI (1200 + (p - 1) / 6)) (tB p 3 k (pW k (nI (300 * 3 + p)) W))).2.2.2)), ((T.1), (T.2.1), (T.2.2.1), (T.2.2.2.1), (T.2.2.2.2)))) N _
                refine e_aload_n (pc := 166) d_md_tell_166 rfl ?_
                refine e_get (pc := 167) d_md_tell_167 fl_md_60 md_g42 rfl ?_
                refine e_iload (pc := 170) d_md_tell_170 rfl ?_
                refine e_iconst (pc := 172) d_md_tell_172 (v := (bI (false))) rfl ?_
                refine e_zastN (pc := 173) d_md_tell_173 (f := ((pW k (nI (1200 + (p - 1) / 6)) (tB p 3 k (pW k (nI (300 * 3 + p)) W))).2.1)) md_g58 (by omega) (by decide) ?_
                rw [md_u58]
                show q_Ev l G m_md_tell 1 22 0 0 174 [some (.ref (42)), some (.int (ldI srv)), some (.int (nI (p))), some (.int (nI (3))), some (.int (nI (k))), some (.int (nI (((259) * (k)) + (p)))), some (.int (bI (((W.1)) (((259) * (k)) + (p))))), some (.int (nI (((259) * (k)) + ((p - 1) / 6))))] [] (md_put h (((A.1), (A.2.1), (A.2.2.1), (A.2.2.2)), ((L.1), (L.2.1), (L.2.2.1), (L.2.2.2)), ((S.1), (S.2.1), (S.2.2.1), (S.2.2.2.1), (S.2.2.2.2)), ((C.1), (C.2.1), (C.2.2.1), (C.2.2.2.1), (C.2.2.2.2)), (((pW k (nI (1200 + (p - 1) / 6)) (tB p 3 k (pW k (nI (300 * 3 + p)) W))).1), (va_up (((pW k (nI (1200 + (p - 1) / 6)) (tB p 3 k (pW k (nI (300 * 3 + p)) W))).2.1)) (((259) * (k)) + ((p - 1) / 6)) (false)), ((pW k (nI (1200 + (p - 1) / 6)) (tB p 3 k (pW k (nI (300 * 3 + p)) W))).2.2.1), ((pW k (nI (1200 + (p - 1) / 6)) (tB p 3 k (pW k (nI (300 * 3 + p)) W))).2.2.2)), ((T.1), (T.2.1), (T.2.2.1), (T.2.2.2.1), (T.2.2.2.2)))) N _
                refine e_iincN (pc := 174) d_md_tell_174 (a := k) (b := 1) rfl rfl (by decide) ?_
                refine e_goto (pc := 177) (tgt := 3) d_md_tell_177 (by decide) ?_
                have eC : tC p 3 k (tB p 3 k (pW k (nI (300 * 3 + p)) W)) = ((pW k (nI (1200 + (p - 1) / 6)) (tB p 3 k (pW k (nI (300 * 3 + p)) W))).1, va_up (pW k (nI (1200 + (p - 1) / 6)) (tB p 3 k (pW k (nI (300 * 3 + p)) W))).2.1 (259 * k + (p - 1) / 6) false, (pW k (nI (1200 + (p - 1) / 6)) (tB p 3 k (pW k (nI (300 * 3 + p)) W))).2.2) := by rw [tC, if_pos ⟨by decide, c5⟩]
                rw [eC]
                exact ih (k + 1) ((pW k (nI (1200 + (p - 1) / 6)) (tB p 3 k (pW k (nI (300 * 3 + p)) W))).1, va_up (pW k (nI (1200 + (p - 1) / 6)) (tB p 3 k (pW k (nI (300 * 3 + p)) W))).2.1 (259 * k + (p - 1) / 6) false, (pW k (nI (1200 + (p - 1) / 6)) (tB p 3 k (pW k (nI (300 * 3 + p)) W))).2.2) _ _ _ ⟨by omega, fun j hj => pW_o (s := k) (v := nI (1200 + (p - 1) / 6)) hoB j hj⟩
            · rw [show _ = true from c3] at c3b; exact nomatch c3b
        · refine e_goto (pc := 30) (tgt := 174) d_md_tell_30 (by decide) ?_
          have e1 : tl1 srv C p 3 k W = W := by rw [tl1, if_neg (fun z => c2 ((ldI_eq hsv hat).mpr z.2))]
          refine e_iincN (pc := 174) d_md_tell_174 (a := k) (b := 1) rfl rfl (by decide) ?_
          refine e_goto (pc := 177) (tgt := 3) d_md_tell_177 (by decide) ?_
          simp only [tlF]
          rw [e1]
          exact ih (k + 1) W x5 x6 x7 ⟨by omega, hW⟩
set_option maxHeartbeats 4000000 in
set_option maxRecDepth 100000 in
theorem c_md_tell3 {l : Launch} {G : q_G} (htr : l.stackTraces = false) {h : q_H} {N : Nat} {A : mA} {L : mL} {S : mS} {C : mC} {W : mW} {T : mT} {srv : Option Nat} (hsv : ∀ i, srv = some i → i < 3) (hC : mCo C) (hW : mWo W) {p : Nat} (hp : p < 259) : q_Met l G m_md_tell 1 22 0 0 [.ref (42), .int (ldI srv), .int (nI (p)), .int (nI (3))] (md_put h (A, L, S, C, W, T)) N (q_To (none) (md_put h (A, L, S, C, tlF srv C p 3 4 0 W, T)) N) := by
  refine q_Met.mk htr (by decide +kernel) rfl (List.forall_mem_cons.mpr ⟨rfl, List.forall_mem_cons.mpr ⟨rfl, List.forall_mem_cons.mpr ⟨rfl, List.forall_mem_cons.mpr ⟨rfl, fun _ h => nomatch h⟩⟩⟩⟩) (Nat.le_of_ble_eq_true rfl) ?_
  refine e_iconst (pc := 0) d_md_tell_0 (v := (nI (0))) rfl ?_
  refine e_istore (pc := 1) d_md_tell_1 (by decide) ?_
  exact lp_md_tell3 htr hsv hC hp 4 0 W none none none ⟨by omega, hW⟩
