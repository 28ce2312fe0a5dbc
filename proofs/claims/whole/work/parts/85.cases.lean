/-! THE LAW'S 19 CASES (wip/whole/p85.py) -/
theorem zex_b {s q : Int32} {b : Bool} {x : zX} : ∀ v, (z_exists s q b x).1 = zI v → ∃ b, v = bI b := by
  intro v
  unfold z_exists
  split
  · split
    · intro h
      exact ⟨_, (Value.int.inj (Option.some.inj (Sum.inl.inj h))).symm⟩
    · intro h; exact nomatch h
  · intro h; exact nomatch h
theorem mex_b {s q : Int32} {b : Bool} {M : mR} : ∃ b2, (m_exists s q b M).1 = bI b2 := by
  unfold m_exists
  split
  · split
    · exact ⟨_, rfl⟩
    · exact ⟨false, rfl⟩
  · exact ⟨false, rfl⟩
theorem ag_M {x : zX} {A : mA} {L : mL} {S : mS} {C : mC} {W : mW} {T : mT} (h : INV x (A, L, S, C, W, T)) : ∀ s, s < 3 → S.2.2.1 s < 100000 := fun s hs => by
  have e := (h.1.2.2.1.2.1 s hs).2.2.1
  dsimp only at e
  rw [← e]
  exact (h.1.1.1.2.2.2 s hs).2.2
set_option maxHeartbeats 1000000 in
theorem lc_open {l : Launch} {G : q_G} (htr : l.stackTraces = false) {x : zX} {M : mR} {f : Nat → Int64} {i cc ss : Nat} {k5 k6 : Option Value} {Q : q_Q} (hs : LSt x M f) (hi : i + 5 ≤ G.2.2.2.2.1) (hG : G.2.2.2.2.1 < 2 ^ 31) (hep : z_ep (x_R x) + 1 < 100000) (kk : ∀ x' M' f' k5 k6, LSt x' M' f' → Eq1 x x' → q_Ev l G m_lw_law 10 191 cc ss 1503 (lvL i k5 k6) [] (zs_put (x_h x') (x_R x')) (x_N x') Q) : q_Ev l G m_lw_law 10 191 (cc + 16) (ss + 96) 128 (lvL i k5 k6) [] (zs_put (x_h x) (x_R x)) (x_N x) Q := by
  obtain ⟨⟨fa, ld, ep, tm⟩, L, S, C, W, T⟩ := M
  refine e_aload_n (pc := 128) d_lw_law_128 rfl ?_
  refine e_aload_n (pc := 129) d_lw_law_129 rfl ?_
  refine e_iload (pc := 130) d_lw_law_130 rfl ?_
  refine e_iconst (pc := 132) d_lw_law_132 (v := nI 1) rfl ?_
  refine e_iaddN (pc := 133) d_lw_law_133 ?_
  refine e_sld (pc := 134) d_lw_law_134 (vp_inN (by omega) hG) ?_
  refine e_aload_n (pc := 135) d_lw_law_135 rfl ?_
  refine e_iload (pc := 136) d_lw_law_136 rfl ?_
  refine e_iconst (pc := 138) d_lw_law_138 (v := nI 2) rfl ?_
  refine e_iaddN (pc := 139) d_lw_law_139 ?_
  refine e_sld (pc := 140) d_lw_law_140 (vp_inN (by omega) hG) ?_
  refine e_aload_n (pc := 141) d_lw_law_141 rfl ?_
  refine e_iload (pc := 142) d_lw_law_142 rfl ?_
  refine e_iconst (pc := 144) d_lw_law_144 (v := nI 3) rfl ?_
  refine e_iaddN (pc := 145) d_lw_law_145 ?_
  refine e_sld (pc := 146) d_lw_law_146 (vp_inN (by omega) hG) ?_
  refine e_aload_n (pc := 147) d_lw_law_147 rfl ?_
  have hA : Ag [IAE, ISE] (z_open (G.2.2.2.2.2 (nI (i + 1)).toNatClampNeg) (G.2.2.2.2.2 (nI (i + 2)).toNatClampNeg) (G.2.2.2.2.2 (nI (i + 3)).toNatClampNeg) x) (m_open (G.2.2.2.2.2 (nI (i + 1)).toNatClampNeg) (G.2.2.2.2.2 (nI (i + 2)).toNatClampNeg) (G.2.2.2.2.2 (nI (i + 3)).toNatClampNeg) ((fa, ld, ep, tm), L, S, C, W, T)) := eq_open hs.1
  have hE : Ex x (z_open (G.2.2.2.2.2 (nI (i + 1)).toNatClampNeg) (G.2.2.2.2.2 (nI (i + 2)).toNatClampNeg) (G.2.2.2.2.2 (nI (i + 3)).toNatClampNeg) x).2 := Ex_open (G.2.2.2.2.2 (nI (i + 1)).toNatClampNeg) (G.2.2.2.2.2 (nI (i + 2)).toNatClampNeg) (G.2.2.2.2.2 (nI (i + 3)).toNatClampNeg) x
  have hP : Eq1 x (z_open (G.2.2.2.2.2 (nI (i + 1)).toNatClampNeg) (G.2.2.2.2.2 (nI (i + 2)).toNatClampNeg) (G.2.2.2.2.2 (nI (i + 3)).toNatClampNeg) x).2 := Ep_open (G.2.2.2.2.2 (nI (i + 1)).toNatClampNeg) (G.2.2.2.2.2 (nI (i + 2)).toNatClampNeg) (G.2.2.2.2.2 (nI (i + 3)).toNatClampNeg) x
  have h66 : x_h (z_open (G.2.2.2.2.2 (nI (i + 1)).toNatClampNeg) (G.2.2.2.2.2 (nI (i + 2)).toNatClampNeg) (G.2.2.2.2.2 (nI (i + 3)).toNatClampNeg) x).2 66 = some (q_al 1 f) := (hE.2 66 hs.2.2.2).trans hs.2.2.1
  refine e_callSX (pc := 148) (cc2 := cc) (ss2 := ss) (As := [.ref 1, .int (G.2.2.2.2.2 (nI (i + 1)).toNatClampNeg), .int (G.2.2.2.2.2 (nI (i + 2)).toNatClampNeg), .int (G.2.2.2.2.2 (nI (i + 3)).toNatClampNeg), .ref 66]) (st := []) d_lw_law_148 rfl cx_lw_88 (c_lw_open htr (r := z_open (G.2.2.2.2.2 (nI (i + 1)).toNatClampNeg) (G.2.2.2.2.2 (nI (i + 2)).toNatClampNeg) (G.2.2.2.2.2 (nI (i + 3)).toNatClampNeg) x) rfl (c_zs_open htr hs.1.1.1) h66 (Ag_Rs hA)) rfl (by decide) (Nat.le_of_ble_eq_true rfl) (Nat.le_of_eq (Nat.add_comm _ _)) (Nat.le_of_eq (Nat.add_comm _ _)) (by decide) (fun E h' N' hq => ?_) (fun rr h' N' hq => ?_)
  · obtain ⟨-, ⟨v, f9, -, z, -⟩ | ⟨c, E2, -, -, z, -⟩⟩ := hq
    · exact nomatch z
    · exact nomatch z
  obtain ⟨k, g, f2, m1, m2, m3, m4, m5, m6⟩ := MID hs hE hA (by decide) (by decide) hq
  have m7 : rr = some (.int (nI k)) := Sum.inl.inj m2
  subst m7
  subst m3
  refine e_istore (pc := 151) d_lw_law_151 (by decide) ?_
  refine e_aload_n (pc := 153) d_lw_law_153 rfl ?_
  refine e_aload_n (pc := 154) d_lw_law_154 rfl ?_
  refine e_iload (pc := 155) d_lw_law_155 rfl ?_
  refine e_iconst (pc := 157) d_lw_law_157 (v := nI 1) rfl ?_
  refine e_iaddN (pc := 158) d_lw_law_158 ?_
  refine e_sld (pc := 159) d_lw_law_159 (vp_inN (by omega) hG) ?_
  refine e_aload_n (pc := 160) d_lw_law_160 rfl ?_
  refine e_iload (pc := 161) d_lw_law_161 rfl ?_
  refine e_iconst (pc := 163) d_lw_law_163 (v := nI 2) rfl ?_
  refine e_iaddN (pc := 164) d_lw_law_164 ?_
  refine e_sld (pc := 165) d_lw_law_165 (vp_inN (by omega) hG) ?_
  refine e_aload_n (pc := 166) d_lw_law_166 rfl ?_
  refine e_iload (pc := 167) d_lw_law_167 rfl ?_
  refine e_iconst (pc := 169) d_lw_law_169 (v := nI 3) rfl ?_
  refine e_iaddN (pc := 170) d_lw_law_170 ?_
  refine e_sld (pc := 171) d_lw_law_171 (vp_inN (by omega) hG) ?_
  refine e_callV (pc := 172) (cc2 := cc) (ss2 := ss) (As := [.int (G.2.2.2.2.2 (nI (i + 1)).toNatClampNeg), .int (G.2.2.2.2.2 (nI (i + 2)).toNatClampNeg), .int (G.2.2.2.2.2 (nI (i + 3)).toNatClampNeg)]) (st := []) (b := 42) d_lw_law_172 rfl cv_lw_93 rfl rfl (c_md_open htr (n := 72) (Nat.le_refl _) (IV_m hs.1.1)) rfl (by decide) (Nat.le_of_ble_eq_true rfl) (Nat.le_of_eq (Nat.zero_add _)) (Nat.le_of_eq (Nat.zero_add _)) (by decide) (fun E h' N2 hq2 => (by exact nomatch hq2.1)) (fun rr h' N2 hq2 => ?_)
  obtain ⟨n1, n2, n3⟩ := hq2
  have n4 : rr = some (.int (m_open (G.2.2.2.2.2 (nI (i + 1)).toNatClampNeg) (G.2.2.2.2.2 (nI (i + 2)).toNatClampNeg) (G.2.2.2.2.2 (nI (i + 3)).toNatClampNeg) ((fa, ld, ep, tm), L, S, C, W, T)).1) := Sum.inl.inj n1
  subst n4
  subst n2
  subst n3
  refine e_istore (pc := 175) d_lw_law_175 (by decide) ?_
  exact tailL (t := 177) htr d_lw_law_177 d_lw_law_178 d_lw_law_181 d_lw_law_183 d_lw_law_188 d_lw_law_190 d_lw_law_193 d_lw_law_194 d_lw_law_195 d_lw_law_196 d_lw_law_198 d_lw_law_199 d_lw_law_200 d_lw_law_205 (by decide) m1 m5 m6 m4.2.2.1 (kk _ _ _ _ _ m4 hP)
set_option maxHeartbeats 1000000 in
theorem lc_close {l : Launch} {G : q_G} (htr : l.stackTraces = false) {x : zX} {M : mR} {f : Nat → Int64} {i cc ss : Nat} {k5 k6 : Option Value} {Q : q_Q} (hs : LSt x M f) (hi : i + 5 ≤ G.2.2.2.2.1) (hG : G.2.2.2.2.1 < 2 ^ 31) (hep : z_ep (x_R x) + 1 < 100000) (kk : ∀ x' M' f' k5 k6, LSt x' M' f' → Eq1 x x' → q_Ev l G m_lw_law 10 191 cc ss 1503 (lvL i k5 k6) [] (zs_put (x_h x') (x_R x')) (x_N x') Q) : q_Ev l G m_lw_law 10 191 (cc + 16) (ss + 96) 208 (lvL i k5 k6) [] (zs_put (x_h x) (x_R x)) (x_N x) Q := by
  obtain ⟨⟨fa, ld, ep, tm⟩, L, S, C, W, T⟩ := M
  refine e_aload_n (pc := 208) d_lw_law_208 rfl ?_
  refine e_aload_n (pc := 209) d_lw_law_209 rfl ?_
  refine e_iload (pc := 210) d_lw_law_210 rfl ?_
  refine e_iconst (pc := 212) d_lw_law_212 (v := nI 1) rfl ?_
  refine e_iaddN (pc := 213) d_lw_law_213 ?_
  refine e_sld (pc := 214) d_lw_law_214 (vp_inN (by omega) hG) ?_
  refine e_aload_n (pc := 215) d_lw_law_215 rfl ?_
  have hA : Ag [IAE, ISE] (z_close (G.2.2.2.2.2 (nI (i + 1)).toNatClampNeg) x) (m_close (G.2.2.2.2.2 (nI (i + 1)).toNatClampNeg) ((fa, ld, ep, tm), L, S, C, W, T)) := eq_close hs.1
  have hE : Ex x (z_close (G.2.2.2.2.2 (nI (i + 1)).toNatClampNeg) x).2 := Ex_close (G.2.2.2.2.2 (nI (i + 1)).toNatClampNeg) x
  have hP : Eq1 x (z_close (G.2.2.2.2.2 (nI (i + 1)).toNatClampNeg) x).2 := Ep_close (G.2.2.2.2.2 (nI (i + 1)).toNatClampNeg) x
  have h66 : x_h (z_close (G.2.2.2.2.2 (nI (i + 1)).toNatClampNeg) x).2 66 = some (q_al 1 f) := (hE.2 66 hs.2.2.2).trans hs.2.2.1
  refine e_callSX (pc := 216) (cc2 := cc) (ss2 := ss) (As := [.ref 1, .int (G.2.2.2.2.2 (nI (i + 1)).toNatClampNeg), .ref 66]) (st := []) d_lw_law_216 rfl cx_lw_97 (c_lw_close htr (r := z_close (G.2.2.2.2.2 (nI (i + 1)).toNatClampNeg) x) rfl (c_zs_close htr hs.1.1.1 (cl_close hs.1)) h66 (Ag_Rs hA)) rfl (by decide) (Nat.le_of_ble_eq_true rfl) (Nat.le_of_eq (Nat.add_comm _ _)) (Nat.le_of_eq (Nat.add_comm _ _)) (by decide) (fun E h' N' hq => ?_) (fun rr h' N' hq => ?_)
  · obtain ⟨-, ⟨v, f9, -, z, -⟩ | ⟨c, E2, -, -, z, -⟩⟩ := hq
    · exact nomatch z
    · exact nomatch z
  obtain ⟨k, g, f2, m1, m2, m3, m4, m5, m6⟩ := MID hs hE hA (by decide) (by decide) hq
  have m7 : rr = some (.int (nI k)) := Sum.inl.inj m2
  subst m7
  subst m3
  refine e_istore (pc := 219) d_lw_law_219 (by decide) ?_
  refine e_aload_n (pc := 221) d_lw_law_221 rfl ?_
  refine e_aload_n (pc := 222) d_lw_law_222 rfl ?_
  refine e_iload (pc := 223) d_lw_law_223 rfl ?_
  refine e_iconst (pc := 225) d_lw_law_225 (v := nI 1) rfl ?_
  refine e_iaddN (pc := 226) d_lw_law_226 ?_
  refine e_sld (pc := 227) d_lw_law_227 (vp_inN (by omega) hG) ?_
  refine e_callV (pc := 228) (cc2 := cc) (ss2 := ss) (As := [.int (G.2.2.2.2.2 (nI (i + 1)).toNatClampNeg)]) (st := []) (b := 42) d_lw_law_228 rfl cv_lw_100 rfl rfl (c_md_close htr (n := 72) (Nat.le_refl _) (IV_m hs.1.1)) rfl (by decide) (Nat.le_of_ble_eq_true rfl) (Nat.le_of_eq (Nat.zero_add _)) (Nat.le_of_eq (Nat.zero_add _)) (by decide) (fun E h' N2 hq2 => (by exact nomatch hq2.1)) (fun rr h' N2 hq2 => ?_)
  obtain ⟨n1, n2, n3⟩ := hq2
  have n4 : rr = some (.int (m_close (G.2.2.2.2.2 (nI (i + 1)).toNatClampNeg) ((fa, ld, ep, tm), L, S, C, W, T)).1) := Sum.inl.inj n1
  subst n4
  subst n2
  subst n3
  refine e_istore (pc := 231) d_lw_law_231 (by decide) ?_
  exact tailL (t := 233) htr d_lw_law_233 d_lw_law_234 d_lw_law_237 d_lw_law_239 d_lw_law_244 d_lw_law_246 d_lw_law_249 d_lw_law_250 d_lw_law_251 d_lw_law_252 d_lw_law_254 d_lw_law_255 d_lw_law_256 d_lw_law_261 (by decide) m1 m5 m6 m4.2.2.1 (kk _ _ _ _ _ m4 hP)
set_option maxHeartbeats 1000000 in
theorem lc_ping {l : Launch} {G : q_G} (htr : l.stackTraces = false) {x : zX} {M : mR} {f : Nat → Int64} {i cc ss : Nat} {k5 k6 : Option Value} {Q : q_Q} (hs : LSt x M f) (hi : i + 5 ≤ G.2.2.2.2.1) (hG : G.2.2.2.2.1 < 2 ^ 31) (hep : z_ep (x_R x) + 1 < 100000) (kk : ∀ x' M' f' k5 k6, LSt x' M' f' → Eq1 x x' → q_Ev l G m_lw_law 10 191 cc ss 1503 (lvL i k5 k6) [] (zs_put (x_h x') (x_R x')) (x_N x') Q) : q_Ev l G m_lw_law 10 191 (cc + 16) (ss + 96) 264 (lvL i k5 k6) [] (zs_put (x_h x) (x_R x)) (x_N x) Q := by
  obtain ⟨⟨fa, ld, ep, tm⟩, L, S, C, W, T⟩ := M
  refine e_aload_n (pc := 264) d_lw_law_264 rfl ?_
  refine e_aload_n (pc := 265) d_lw_law_265 rfl ?_
  refine e_iload (pc := 266) d_lw_law_266 rfl ?_
  refine e_iconst (pc := 268) d_lw_law_268 (v := nI 1) rfl ?_
  refine e_iaddN (pc := 269) d_lw_law_269 ?_
  refine e_sld (pc := 270) d_lw_law_270 (vp_inN (by omega) hG) ?_
  refine e_aload_n (pc := 271) d_lw_law_271 rfl ?_
  have hA : Ag [IAE, ISE] (z_ping (G.2.2.2.2.2 (nI (i + 1)).toNatClampNeg) x) (m_ping (G.2.2.2.2.2 (nI (i + 1)).toNatClampNeg) ((fa, ld, ep, tm), L, S, C, W, T)) := eq_ping hs.1
  have hE : Ex x (z_ping (G.2.2.2.2.2 (nI (i + 1)).toNatClampNeg) x).2 := Ex_ping (G.2.2.2.2.2 (nI (i + 1)).toNatClampNeg) x
  have hP : Eq1 x (z_ping (G.2.2.2.2.2 (nI (i + 1)).toNatClampNeg) x).2 := Ep_ping (G.2.2.2.2.2 (nI (i + 1)).toNatClampNeg) x
  have h66 : x_h (z_ping (G.2.2.2.2.2 (nI (i + 1)).toNatClampNeg) x).2 66 = some (q_al 1 f) := (hE.2 66 hs.2.2.2).trans hs.2.2.1
  refine e_callSX (pc := 272) (cc2 := cc) (ss2 := ss) (As := [.ref 1, .int (G.2.2.2.2.2 (nI (i + 1)).toNatClampNeg), .ref 66]) (st := []) d_lw_law_272 rfl cx_lw_101 (c_lw_ping htr (r := z_ping (G.2.2.2.2.2 (nI (i + 1)).toNatClampNeg) x) rfl (c_zs_ping htr hs.1.1.1) h66 (Ag_Rs hA)) rfl (by decide) (Nat.le_of_ble_eq_true rfl) (Nat.le_of_eq (Nat.add_comm _ _)) (Nat.le_of_eq (Nat.add_comm _ _)) (by decide) (fun E h' N' hq => ?_) (fun rr h' N' hq => ?_)
  · obtain ⟨-, ⟨v, f9, -, z, -⟩ | ⟨c, E2, -, -, z, -⟩⟩ := hq
    · exact nomatch z
    · exact nomatch z
  obtain ⟨k, g, f2, m1, m2, m3, m4, m5, m6⟩ := MID hs hE hA (by decide) (by decide) hq
  have m7 : rr = some (.int (nI k)) := Sum.inl.inj m2
  subst m7
  subst m3
  refine e_istore (pc := 275) d_lw_law_275 (by decide) ?_
  refine e_aload_n (pc := 277) d_lw_law_277 rfl ?_
  refine e_aload_n (pc := 278) d_lw_law_278 rfl ?_
  refine e_iload (pc := 279) d_lw_law_279 rfl ?_
  refine e_iconst (pc := 281) d_lw_law_281 (v := nI 1) rfl ?_
  refine e_iaddN (pc := 282) d_lw_law_282 ?_
  refine e_sld (pc := 283) d_lw_law_283 (vp_inN (by omega) hG) ?_
  refine e_callV (pc := 284) (cc2 := cc) (ss2 := ss) (As := [.int (G.2.2.2.2.2 (nI (i + 1)).toNatClampNeg)]) (st := []) (b := 42) d_lw_law_284 rfl cv_lw_103 rfl rfl (c_md_ping htr (n := 72) (Nat.le_refl _) (IV_m hs.1.1)) rfl (by decide) (Nat.le_of_ble_eq_true rfl) (Nat.le_of_eq (Nat.zero_add _)) (Nat.le_of_eq (Nat.zero_add _)) (by decide) (fun E h' N2 hq2 => (by exact nomatch hq2.1)) (fun rr h' N2 hq2 => ?_)
  obtain ⟨n1, n2, n3⟩ := hq2
  have n4 : rr = some (.int (m_ping (G.2.2.2.2.2 (nI (i + 1)).toNatClampNeg) ((fa, ld, ep, tm), L, S, C, W, T)).1) := Sum.inl.inj n1
  subst n4
  subst n2
  subst n3
  refine e_istore (pc := 287) d_lw_law_287 (by decide) ?_
  exact tailL (t := 289) htr d_lw_law_289 d_lw_law_290 d_lw_law_293 d_lw_law_295 d_lw_law_300 d_lw_law_302 d_lw_law_305 d_lw_law_306 d_lw_law_307 d_lw_law_308 d_lw_law_310 d_lw_law_311 d_lw_law_312 d_lw_law_317 (by decide) m1 m5 m6 m4.2.2.1 (kk _ _ _ _ _ m4 hP)
set_option maxHeartbeats 1000000 in
theorem lc_move {l : Launch} {G : q_G} (htr : l.stackTraces = false) {x : zX} {M : mR} {f : Nat → Int64} {i cc ss : Nat} {k5 k6 : Option Value} {Q : q_Q} (hs : LSt x M f) (hi : i + 5 ≤ G.2.2.2.2.1) (hG : G.2.2.2.2.1 < 2 ^ 31) (hep : z_ep (x_R x) + 1 < 100000) (kk : ∀ x' M' f' k5 k6, LSt x' M' f' → Eq1 x x' → q_Ev l G m_lw_law 10 191 cc ss 1503 (lvL i k5 k6) [] (zs_put (x_h x') (x_R x')) (x_N x') Q) : q_Ev l G m_lw_law 10 191 (cc + 16) (ss + 96) 320 (lvL i k5 k6) [] (zs_put (x_h x) (x_R x)) (x_N x) Q := by
  obtain ⟨⟨fa, ld, ep, tm⟩, L, S, C, W, T⟩ := M
  refine e_aload_n (pc := 320) d_lw_law_320 rfl ?_
  refine e_aload_n (pc := 321) d_lw_law_321 rfl ?_
  refine e_iload (pc := 322) d_lw_law_322 rfl ?_
  refine e_iconst (pc := 324) d_lw_law_324 (v := nI 1) rfl ?_
  refine e_iaddN (pc := 325) d_lw_law_325 ?_
  refine e_sld (pc := 326) d_lw_law_326 (vp_inN (by omega) hG) ?_
  refine e_aload_n (pc := 327) d_lw_law_327 rfl ?_
  refine e_iload (pc := 328) d_lw_law_328 rfl ?_
  refine e_iconst (pc := 330) d_lw_law_330 (v := nI 2) rfl ?_
  refine e_iaddN (pc := 331) d_lw_law_331 ?_
  refine e_sld (pc := 332) d_lw_law_332 (vp_inN (by omega) hG) ?_
  refine e_aload_n (pc := 333) d_lw_law_333 rfl ?_
  have hA : Ag [IAE, ISE] (z_move (G.2.2.2.2.2 (nI (i + 1)).toNatClampNeg) (G.2.2.2.2.2 (nI (i + 2)).toNatClampNeg) x) (m_move (G.2.2.2.2.2 (nI (i + 1)).toNatClampNeg) (G.2.2.2.2.2 (nI (i + 2)).toNatClampNeg) ((fa, ld, ep, tm), L, S, C, W, T)) := eq_move hs.1
  have hE : Ex x (z_move (G.2.2.2.2.2 (nI (i + 1)).toNatClampNeg) (G.2.2.2.2.2 (nI (i + 2)).toNatClampNeg) x).2 := Ex_move (G.2.2.2.2.2 (nI (i + 1)).toNatClampNeg) (G.2.2.2.2.2 (nI (i + 2)).toNatClampNeg) x
  have hP : Eq1 x (z_move (G.2.2.2.2.2 (nI (i + 1)).toNatClampNeg) (G.2.2.2.2.2 (nI (i + 2)).toNatClampNeg) x).2 := Ep_move (G.2.2.2.2.2 (nI (i + 1)).toNatClampNeg) (G.2.2.2.2.2 (nI (i + 2)).toNatClampNeg) x
  have h66 : x_h (z_move (G.2.2.2.2.2 (nI (i + 1)).toNatClampNeg) (G.2.2.2.2.2 (nI (i + 2)).toNatClampNeg) x).2 66 = some (q_al 1 f) := (hE.2 66 hs.2.2.2).trans hs.2.2.1
  refine e_callSX (pc := 334) (cc2 := cc) (ss2 := ss) (As := [.ref 1, .int (G.2.2.2.2.2 (nI (i + 1)).toNatClampNeg), .int (G.2.2.2.2.2 (nI (i + 2)).toNatClampNeg), .ref 66]) (st := []) d_lw_law_334 rfl cx_lw_104 (c_lw_move htr (r := z_move (G.2.2.2.2.2 (nI (i + 1)).toNatClampNeg) (G.2.2.2.2.2 (nI (i + 2)).toNatClampNeg) x) rfl (c_zs_move htr hs.1.1.1) h66 (Ag_Rs hA)) rfl (by decide) (Nat.le_of_ble_eq_true rfl) (Nat.le_of_eq (Nat.add_comm _ _)) (Nat.le_of_eq (Nat.add_comm _ _)) (by decide) (fun E h' N' hq => ?_) (fun rr h' N' hq => ?_)
  · obtain ⟨-, ⟨v, f9, -, z, -⟩ | ⟨c, E2, -, -, z, -⟩⟩ := hq
    · exact nomatch z
    · exact nomatch z
  obtain ⟨k, g, f2, m1, m2, m3, m4, m5, m6⟩ := MID hs hE hA (by decide) (by decide) hq
  have m7 : rr = some (.int (nI k)) := Sum.inl.inj m2
  subst m7
  subst m3
  refine e_istore (pc := 337) d_lw_law_337 (by decide) ?_
  refine e_aload_n (pc := 339) d_lw_law_339 rfl ?_
  refine e_aload_n (pc := 340) d_lw_law_340 rfl ?_
  refine e_iload (pc := 341) d_lw_law_341 rfl ?_
  refine e_iconst (pc := 343) d_lw_law_343 (v := nI 1) rfl ?_
  refine e_iaddN (pc := 344) d_lw_law_344 ?_
  refine e_sld (pc := 345) d_lw_law_345 (vp_inN (by omega) hG) ?_
  refine e_aload_n (pc := 346) d_lw_law_346 rfl ?_
  refine e_iload (pc := 347) d_lw_law_347 rfl ?_
  refine e_iconst (pc := 349) d_lw_law_349 (v := nI 2) rfl ?_
  refine e_iaddN (pc := 350) d_lw_law_350 ?_
  refine e_sld (pc := 351) d_lw_law_351 (vp_inN (by omega) hG) ?_
  refine e_callV (pc := 352) (cc2 := cc) (ss2 := ss) (As := [.int (G.2.2.2.2.2 (nI (i + 1)).toNatClampNeg), .int (G.2.2.2.2.2 (nI (i + 2)).toNatClampNeg)]) (st := []) (b := 42) d_lw_law_352 rfl cv_lw_107 rfl rfl (c_md_move htr (n := 72) (Nat.le_refl _) (IV_m hs.1.1)) rfl (by decide) (Nat.le_of_ble_eq_true rfl) (Nat.le_of_eq (Nat.zero_add _)) (Nat.le_of_eq (Nat.zero_add _)) (by decide) (fun E h' N2 hq2 => (by exact nomatch hq2.1)) (fun rr h' N2 hq2 => ?_)
  obtain ⟨n1, n2, n3⟩ := hq2
  have n4 : rr = some (.int (m_move (G.2.2.2.2.2 (nI (i + 1)).toNatClampNeg) (G.2.2.2.2.2 (nI (i + 2)).toNatClampNeg) ((fa, ld, ep, tm), L, S, C, W, T)).1) := Sum.inl.inj n1
  subst n4
  subst n2
  subst n3
  refine e_istore (pc := 355) d_lw_law_355 (by decide) ?_
  exact tailL (t := 357) htr d_lw_law_357 d_lw_law_358 d_lw_law_361 d_lw_law_363 d_lw_law_368 d_lw_law_370 d_lw_law_373 d_lw_law_374 d_lw_law_375 d_lw_law_376 d_lw_law_378 d_lw_law_379 d_lw_law_380 d_lw_law_385 (by decide) m1 m5 m6 m4.2.2.1 (kk _ _ _ _ _ m4 hP)
set_option maxHeartbeats 1000000 in
theorem lc_create {l : Launch} {G : q_G} (htr : l.stackTraces = false) {x : zX} {M : mR} {f : Nat → Int64} {i cc ss : Nat} {k5 k6 : Option Value} {Q : q_Q} (hs : LSt x M f) (hi : i + 5 ≤ G.2.2.2.2.1) (hG : G.2.2.2.2.1 < 2 ^ 31) (hep : z_ep (x_R x) + 1 < 100000) (kk : ∀ x' M' f' k5 k6, LSt x' M' f' → Eq1 x x' → q_Ev l G m_lw_law 10 191 cc ss 1503 (lvL i k5 k6) [] (zs_put (x_h x') (x_R x')) (x_N x') Q) : q_Ev l G m_lw_law 10 191 (cc + 16) (ss + 96) 388 (lvL i k5 k6) [] (zs_put (x_h x) (x_R x)) (x_N x) Q := by
  obtain ⟨⟨fa, ld, ep, tm⟩, L, S, C, W, T⟩ := M
  refine e_aload_n (pc := 388) d_lw_law_388 rfl ?_
  refine e_aload_n (pc := 389) d_lw_law_389 rfl ?_
  refine e_iload (pc := 390) d_lw_law_390 rfl ?_
  refine e_iconst (pc := 392) d_lw_law_392 (v := nI 1) rfl ?_
  refine e_iaddN (pc := 393) d_lw_law_393 ?_
  refine e_sld (pc := 394) d_lw_law_394 (vp_inN (by omega) hG) ?_
  refine e_aload_n (pc := 395) d_lw_law_395 rfl ?_
  refine e_iload (pc := 396) d_lw_law_396 rfl ?_
  refine e_iconst (pc := 398) d_lw_law_398 (v := nI 2) rfl ?_
  refine e_iaddN (pc := 399) d_lw_law_399 ?_
  refine e_sld (pc := 400) d_lw_law_400 (vp_inN (by omega) hG) ?_
  refine e_aload_n (pc := 401) d_lw_law_401 rfl ?_
  refine e_iload (pc := 402) d_lw_law_402 rfl ?_
  refine e_iconst (pc := 404) d_lw_law_404 (v := nI 3) rfl ?_
  refine e_iaddN (pc := 405) d_lw_law_405 ?_
  refine e_sld (pc := 406) d_lw_law_406 (vp_inN (by omega) hG) ?_
  refine e_aload_n (pc := 407) d_lw_law_407 rfl ?_
  refine e_iload (pc := 408) d_lw_law_408 rfl ?_
  refine e_iconst (pc := 410) d_lw_law_410 (v := nI 4) rfl ?_
  refine e_iaddN (pc := 411) d_lw_law_411 ?_
  refine e_sld (pc := 412) d_lw_law_412 (vp_inN (by omega) hG) ?_
  refine e_aload_n (pc := 413) d_lw_law_413 rfl ?_
  have hA : Ag [IAE, ISE, NSE, UOE, IOB] (z_create (G.2.2.2.2.2 (nI (i + 1)).toNatClampNeg) (G.2.2.2.2.2 (nI (i + 2)).toNatClampNeg) (G.2.2.2.2.2 (nI (i + 3)).toNatClampNeg) (G.2.2.2.2.2 (nI (i + 4)).toNatClampNeg) x) (m_create (G.2.2.2.2.2 (nI (i + 1)).toNatClampNeg) (G.2.2.2.2.2 (nI (i + 2)).toNatClampNeg) (G.2.2.2.2.2 (nI (i + 3)).toNatClampNeg) (G.2.2.2.2.2 (nI (i + 4)).toNatClampNeg) ((fa, ld, ep, tm), L, S, C, W, T)) := eq_create hs.1
  have hE : Ex x (z_create (G.2.2.2.2.2 (nI (i + 1)).toNatClampNeg) (G.2.2.2.2.2 (nI (i + 2)).toNatClampNeg) (G.2.2.2.2.2 (nI (i + 3)).toNatClampNeg) (G.2.2.2.2.2 (nI (i + 4)).toNatClampNeg) x).2 := Ex_create (G.2.2.2.2.2 (nI (i + 1)).toNatClampNeg) (G.2.2.2.2.2 (nI (i + 2)).toNatClampNeg) (G.2.2.2.2.2 (nI (i + 3)).toNatClampNeg) (G.2.2.2.2.2 (nI (i + 4)).toNatClampNeg) x
  have hP : Eq1 x (z_create (G.2.2.2.2.2 (nI (i + 1)).toNatClampNeg) (G.2.2.2.2.2 (nI (i + 2)).toNatClampNeg) (G.2.2.2.2.2 (nI (i + 3)).toNatClampNeg) (G.2.2.2.2.2 (nI (i + 4)).toNatClampNeg) x).2 := Ep_create (G.2.2.2.2.2 (nI (i + 1)).toNatClampNeg) (G.2.2.2.2.2 (nI (i + 2)).toNatClampNeg) (G.2.2.2.2.2 (nI (i + 3)).toNatClampNeg) (G.2.2.2.2.2 (nI (i + 4)).toNatClampNeg) x
  have h66 : x_h (z_create (G.2.2.2.2.2 (nI (i + 1)).toNatClampNeg) (G.2.2.2.2.2 (nI (i + 2)).toNatClampNeg) (G.2.2.2.2.2 (nI (i + 3)).toNatClampNeg) (G.2.2.2.2.2 (nI (i + 4)).toNatClampNeg) x).2 66 = some (q_al 1 f) := (hE.2 66 hs.2.2.2).trans hs.2.2.1
  refine e_callSX (pc := 414) (cc2 := cc) (ss2 := ss) (As := [.ref 1, .int (G.2.2.2.2.2 (nI (i + 1)).toNatClampNeg), .int (G.2.2.2.2.2 (nI (i + 2)).toNatClampNeg), .int (G.2.2.2.2.2 (nI (i + 3)).toNatClampNeg), .int (G.2.2.2.2.2 (nI (i + 4)).toNatClampNeg), .ref 66]) (st := []) d_lw_law_414 rfl cx_lw_108 (c_lw_create htr (r := z_create (G.2.2.2.2.2 (nI (i + 1)).toNatClampNeg) (G.2.2.2.2.2 (nI (i + 2)).toNatClampNeg) (G.2.2.2.2.2 (nI (i + 3)).toNatClampNeg) (G.2.2.2.2.2 (nI (i + 4)).toNatClampNeg) x) rfl (c_zs_create htr hs.1.1.1 hs.1.2.2.2) h66 (Ag_Rs hA)) rfl (by decide) (Nat.le_of_ble_eq_true rfl) (Nat.le_of_eq (Nat.add_comm _ _)) (Nat.le_of_eq (Nat.add_comm _ _)) (by decide) (fun E h' N' hq => ?_) (fun rr h' N' hq => ?_)
  · obtain ⟨-, ⟨v, f9, -, z, -⟩ | ⟨c, E2, -, -, z, -⟩⟩ := hq
    · exact nomatch z
    · exact nomatch z
  obtain ⟨k, g, f2, m1, m2, m3, m4, m5, m6⟩ := MID hs hE hA (by decide) (by decide) hq
  have m7 : rr = some (.int (nI k)) := Sum.inl.inj m2
  subst m7
  subst m3
  refine e_istore (pc := 417) d_lw_law_417 (by decide) ?_
  refine e_aload_n (pc := 419) d_lw_law_419 rfl ?_
  refine e_aload_n (pc := 420) d_lw_law_420 rfl ?_
  refine e_iload (pc := 421) d_lw_law_421 rfl ?_
  refine e_iconst (pc := 423) d_lw_law_423 (v := nI 1) rfl ?_
  refine e_iaddN (pc := 424) d_lw_law_424 ?_
  refine e_sld (pc := 425) d_lw_law_425 (vp_inN (by omega) hG) ?_
  refine e_aload_n (pc := 426) d_lw_law_426 rfl ?_
  refine e_iload (pc := 427) d_lw_law_427 rfl ?_
  refine e_iconst (pc := 429) d_lw_law_429 (v := nI 2) rfl ?_
  refine e_iaddN (pc := 430) d_lw_law_430 ?_
  refine e_sld (pc := 431) d_lw_law_431 (vp_inN (by omega) hG) ?_
  refine e_aload_n (pc := 432) d_lw_law_432 rfl ?_
  refine e_iload (pc := 433) d_lw_law_433 rfl ?_
  refine e_iconst (pc := 435) d_lw_law_435 (v := nI 3) rfl ?_
  refine e_iaddN (pc := 436) d_lw_law_436 ?_
  refine e_sld (pc := 437) d_lw_law_437 (vp_inN (by omega) hG) ?_
  refine e_aload_n (pc := 438) d_lw_law_438 rfl ?_
  refine e_iload (pc := 439) d_lw_law_439 rfl ?_
  refine e_iconst (pc := 441) d_lw_law_441 (v := nI 4) rfl ?_
  refine e_iaddN (pc := 442) d_lw_law_442 ?_
  refine e_sld (pc := 443) d_lw_law_443 (vp_inN (by omega) hG) ?_
  refine e_callV (pc := 444) (cc2 := cc) (ss2 := ss) (As := [.int (G.2.2.2.2.2 (nI (i + 1)).toNatClampNeg), .int (G.2.2.2.2.2 (nI (i + 2)).toNatClampNeg), .int (G.2.2.2.2.2 (nI (i + 3)).toNatClampNeg), .int (G.2.2.2.2.2 (nI (i + 4)).toNatClampNeg)]) (st := []) (b := 42) d_lw_law_444 rfl cv_lw_111 rfl rfl (c_md_create htr (n := 72) (Nat.le_refl _) (IV_m hs.1.1) (nx_M hs.1)) rfl (by decide) (Nat.le_of_ble_eq_true rfl) (Nat.le_of_eq (Nat.zero_add _)) (Nat.le_of_eq (Nat.zero_add _)) (by decide) (fun E h' N2 hq2 => (by exact nomatch hq2.1)) (fun rr h' N2 hq2 => ?_)
  obtain ⟨n1, n2, n3⟩ := hq2
  have n4 : rr = some (.int (m_create (G.2.2.2.2.2 (nI (i + 1)).toNatClampNeg) (G.2.2.2.2.2 (nI (i + 2)).toNatClampNeg) (G.2.2.2.2.2 (nI (i + 3)).toNatClampNeg) (G.2.2.2.2.2 (nI (i + 4)).toNatClampNeg) ((fa, ld, ep, tm), L, S, C, W, T)).1) := Sum.inl.inj n1
  subst n4
  subst n2
  subst n3
  refine e_istore (pc := 447) d_lw_law_447 (by decide) ?_
  exact tailL (t := 449) htr d_lw_law_449 d_lw_law_450 d_lw_law_453 d_lw_law_455 d_lw_law_460 d_lw_law_462 d_lw_law_465 d_lw_law_466 d_lw_law_467 d_lw_law_468 d_lw_law_470 d_lw_law_471 d_lw_law_472 d_lw_law_477 (by decide) m1 m5 m6 m4.2.2.1 (kk _ _ _ _ _ m4 hP)
set_option maxHeartbeats 1000000 in
theorem lc_set {l : Launch} {G : q_G} (htr : l.stackTraces = false) {x : zX} {M : mR} {f : Nat → Int64} {i cc ss : Nat} {k5 k6 : Option Value} {Q : q_Q} (hs : LSt x M f) (hi : i + 5 ≤ G.2.2.2.2.1) (hG : G.2.2.2.2.1 < 2 ^ 31) (hep : z_ep (x_R x) + 1 < 100000) (kk : ∀ x' M' f' k5 k6, LSt x' M' f' → Eq1 x x' → q_Ev l G m_lw_law 10 191 cc ss 1503 (lvL i k5 k6) [] (zs_put (x_h x') (x_R x')) (x_N x') Q) : q_Ev l G m_lw_law 10 191 (cc + 16) (ss + 96) 480 (lvL i k5 k6) [] (zs_put (x_h x) (x_R x)) (x_N x) Q := by
  obtain ⟨⟨fa, ld, ep, tm⟩, L, S, C, W, T⟩ := M
  refine e_aload_n (pc := 480) d_lw_law_480 rfl ?_
  refine e_aload_n (pc := 481) d_lw_law_481 rfl ?_
  refine e_iload (pc := 482) d_lw_law_482 rfl ?_
  refine e_iconst (pc := 484) d_lw_law_484 (v := nI 1) rfl ?_
  refine e_iaddN (pc := 485) d_lw_law_485 ?_
  refine e_sld (pc := 486) d_lw_law_486 (vp_inN (by omega) hG) ?_
  refine e_aload_n (pc := 487) d_lw_law_487 rfl ?_
  refine e_iload (pc := 488) d_lw_law_488 rfl ?_
  refine e_iconst (pc := 490) d_lw_law_490 (v := nI 2) rfl ?_
  refine e_iaddN (pc := 491) d_lw_law_491 ?_
  refine e_sld (pc := 492) d_lw_law_492 (vp_inN (by omega) hG) ?_
  refine e_aload_n (pc := 493) d_lw_law_493 rfl ?_
  refine e_iload (pc := 494) d_lw_law_494 rfl ?_
  refine e_iconst (pc := 496) d_lw_law_496 (v := nI 3) rfl ?_
  refine e_iaddN (pc := 497) d_lw_law_497 ?_
  refine e_sld (pc := 498) d_lw_law_498 (vp_inN (by omega) hG) ?_
  refine e_aload_n (pc := 499) d_lw_law_499 rfl ?_
  refine e_iload (pc := 500) d_lw_law_500 rfl ?_
  refine e_iconst (pc := 502) d_lw_law_502 (v := nI 4) rfl ?_
  refine e_iaddN (pc := 503) d_lw_law_503 ?_
  refine e_sld (pc := 504) d_lw_law_504 (vp_inN (by omega) hG) ?_
  refine e_aload_n (pc := 505) d_lw_law_505 rfl ?_
  have hA : Ag [IAE, ISE, NSE] (z_set (G.2.2.2.2.2 (nI (i + 1)).toNatClampNeg) (G.2.2.2.2.2 (nI (i + 2)).toNatClampNeg) (G.2.2.2.2.2 (nI (i + 3)).toNatClampNeg) (G.2.2.2.2.2 (nI (i + 4)).toNatClampNeg) x) (m_set (G.2.2.2.2.2 (nI (i + 1)).toNatClampNeg) (G.2.2.2.2.2 (nI (i + 2)).toNatClampNeg) (G.2.2.2.2.2 (nI (i + 3)).toNatClampNeg) (G.2.2.2.2.2 (nI (i + 4)).toNatClampNeg) ((fa, ld, ep, tm), L, S, C, W, T)) := eq_set hs.1
  have hE : Ex x (z_set (G.2.2.2.2.2 (nI (i + 1)).toNatClampNeg) (G.2.2.2.2.2 (nI (i + 2)).toNatClampNeg) (G.2.2.2.2.2 (nI (i + 3)).toNatClampNeg) (G.2.2.2.2.2 (nI (i + 4)).toNatClampNeg) x).2 := Ex_set (G.2.2.2.2.2 (nI (i + 1)).toNatClampNeg) (G.2.2.2.2.2 (nI (i + 2)).toNatClampNeg) (G.2.2.2.2.2 (nI (i + 3)).toNatClampNeg) (G.2.2.2.2.2 (nI (i + 4)).toNatClampNeg) x
  have hP : Eq1 x (z_set (G.2.2.2.2.2 (nI (i + 1)).toNatClampNeg) (G.2.2.2.2.2 (nI (i + 2)).toNatClampNeg) (G.2.2.2.2.2 (nI (i + 3)).toNatClampNeg) (G.2.2.2.2.2 (nI (i + 4)).toNatClampNeg) x).2 := Ep_set (G.2.2.2.2.2 (nI (i + 1)).toNatClampNeg) (G.2.2.2.2.2 (nI (i + 2)).toNatClampNeg) (G.2.2.2.2.2 (nI (i + 3)).toNatClampNeg) (G.2.2.2.2.2 (nI (i + 4)).toNatClampNeg) x
  have h66 : x_h (z_set (G.2.2.2.2.2 (nI (i + 1)).toNatClampNeg) (G.2.2.2.2.2 (nI (i + 2)).toNatClampNeg) (G.2.2.2.2.2 (nI (i + 3)).toNatClampNeg) (G.2.2.2.2.2 (nI (i + 4)).toNatClampNeg) x).2 66 = some (q_al 1 f) := (hE.2 66 hs.2.2.2).trans hs.2.2.1
  refine e_callSX (pc := 506) (cc2 := cc) (ss2 := ss) (As := [.ref 1, .int (G.2.2.2.2.2 (nI (i + 1)).toNatClampNeg), .int (G.2.2.2.2.2 (nI (i + 2)).toNatClampNeg), .int (G.2.2.2.2.2 (nI (i + 3)).toNatClampNeg), .int (G.2.2.2.2.2 (nI (i + 4)).toNatClampNeg), .ref 66]) (st := []) d_lw_law_506 rfl cx_lw_112 (c_lw_set htr (r := z_set (G.2.2.2.2.2 (nI (i + 1)).toNatClampNeg) (G.2.2.2.2.2 (nI (i + 2)).toNatClampNeg) (G.2.2.2.2.2 (nI (i + 3)).toNatClampNeg) (G.2.2.2.2.2 (nI (i + 4)).toNatClampNeg) x) rfl (c_zs_set htr hs.1.1.1) h66 (Ag_Rs hA)) rfl (by decide) (Nat.le_of_ble_eq_true rfl) (Nat.le_of_eq (Nat.add_comm _ _)) (Nat.le_of_eq (Nat.add_comm _ _)) (by decide) (fun E h' N' hq => ?_) (fun rr h' N' hq => ?_)
  · obtain ⟨-, ⟨v, f9, -, z, -⟩ | ⟨c, E2, -, -, z, -⟩⟩ := hq
    · exact nomatch z
    · exact nomatch z
  obtain ⟨k, g, f2, m1, m2, m3, m4, m5, m6⟩ := MID hs hE hA (by decide) (by decide) hq
  have m7 : rr = some (.int (nI k)) := Sum.inl.inj m2
  subst m7
  subst m3
  refine e_istore (pc := 509) d_lw_law_509 (by decide) ?_
  refine e_aload_n (pc := 511) d_lw_law_511 rfl ?_
  refine e_aload_n (pc := 512) d_lw_law_512 rfl ?_
  refine e_iload (pc := 513) d_lw_law_513 rfl ?_
  refine e_iconst (pc := 515) d_lw_law_515 (v := nI 1) rfl ?_
  refine e_iaddN (pc := 516) d_lw_law_516 ?_
  refine e_sld (pc := 517) d_lw_law_517 (vp_inN (by omega) hG) ?_
  refine e_aload_n (pc := 518) d_lw_law_518 rfl ?_
  refine e_iload (pc := 519) d_lw_law_519 rfl ?_
  refine e_iconst (pc := 521) d_lw_law_521 (v := nI 2) rfl ?_
  refine e_iaddN (pc := 522) d_lw_law_522 ?_
  refine e_sld (pc := 523) d_lw_law_523 (vp_inN (by omega) hG) ?_
  refine e_aload_n (pc := 524) d_lw_law_524 rfl ?_
  refine e_iload (pc := 525) d_lw_law_525 rfl ?_
  refine e_iconst (pc := 527) d_lw_law_527 (v := nI 3) rfl ?_
  refine e_iaddN (pc := 528) d_lw_law_528 ?_
  refine e_sld (pc := 529) d_lw_law_529 (vp_inN (by omega) hG) ?_
  refine e_aload_n (pc := 530) d_lw_law_530 rfl ?_
  refine e_iload (pc := 531) d_lw_law_531 rfl ?_
  refine e_iconst (pc := 533) d_lw_law_533 (v := nI 4) rfl ?_
  refine e_iaddN (pc := 534) d_lw_law_534 ?_
  refine e_sld (pc := 535) d_lw_law_535 (vp_inN (by omega) hG) ?_
  refine e_callV (pc := 536) (cc2 := cc) (ss2 := ss) (As := [.int (G.2.2.2.2.2 (nI (i + 1)).toNatClampNeg), .int (G.2.2.2.2.2 (nI (i + 2)).toNatClampNeg), .int (G.2.2.2.2.2 (nI (i + 3)).toNatClampNeg), .int (G.2.2.2.2.2 (nI (i + 4)).toNatClampNeg)]) (st := []) (b := 42) d_lw_law_536 rfl cv_lw_114 rfl rfl (c_md_set htr (n := 72) (Nat.le_refl _) (IV_m hs.1.1)) rfl (by decide) (Nat.le_of_ble_eq_true rfl) (Nat.le_of_eq (Nat.zero_add _)) (Nat.le_of_eq (Nat.zero_add _)) (by decide) (fun E h' N2 hq2 => (by exact nomatch hq2.1)) (fun rr h' N2 hq2 => ?_)
  obtain ⟨n1, n2, n3⟩ := hq2
  have n4 : rr = some (.int (m_set (G.2.2.2.2.2 (nI (i + 1)).toNatClampNeg) (G.2.2.2.2.2 (nI (i + 2)).toNatClampNeg) (G.2.2.2.2.2 (nI (i + 3)).toNatClampNeg) (G.2.2.2.2.2 (nI (i + 4)).toNatClampNeg) ((fa, ld, ep, tm), L, S, C, W, T)).1) := Sum.inl.inj n1
  subst n4
  subst n2
  subst n3
  refine e_istore (pc := 539) d_lw_law_539 (by decide) ?_
  exact tailL (t := 541) htr d_lw_law_541 d_lw_law_542 d_lw_law_545 d_lw_law_547 d_lw_law_552 d_lw_law_554 d_lw_law_557 d_lw_law_558 d_lw_law_559 d_lw_law_560 d_lw_law_562 d_lw_law_563 d_lw_law_564 d_lw_law_569 (by decide) m1 m5 m6 m4.2.2.1 (kk _ _ _ _ _ m4 hP)
set_option maxHeartbeats 1000000 in
theorem lc_delete {l : Launch} {G : q_G} (htr : l.stackTraces = false) {x : zX} {M : mR} {f : Nat → Int64} {i cc ss : Nat} {k5 k6 : Option Value} {Q : q_Q} (hs : LSt x M f) (hi : i + 5 ≤ G.2.2.2.2.1) (hG : G.2.2.2.2.1 < 2 ^ 31) (hep : z_ep (x_R x) + 1 < 100000) (kk : ∀ x' M' f' k5 k6, LSt x' M' f' → Eq1 x x' → q_Ev l G m_lw_law 10 191 cc ss 1503 (lvL i k5 k6) [] (zs_put (x_h x') (x_R x')) (x_N x') Q) : q_Ev l G m_lw_law 10 191 (cc + 16) (ss + 96) 572 (lvL i k5 k6) [] (zs_put (x_h x) (x_R x)) (x_N x) Q := by
  obtain ⟨⟨fa, ld, ep, tm⟩, L, S, C, W, T⟩ := M
  refine e_aload_n (pc := 572) d_lw_law_572 rfl ?_
  refine e_aload_n (pc := 573) d_lw_law_573 rfl ?_
  refine e_iload (pc := 574) d_lw_law_574 rfl ?_
  refine e_iconst (pc := 576) d_lw_law_576 (v := nI 1) rfl ?_
  refine e_iaddN (pc := 577) d_lw_law_577 ?_
  refine e_sld (pc := 578) d_lw_law_578 (vp_inN (by omega) hG) ?_
  refine e_aload_n (pc := 579) d_lw_law_579 rfl ?_
  refine e_iload (pc := 580) d_lw_law_580 rfl ?_
  refine e_iconst (pc := 582) d_lw_law_582 (v := nI 2) rfl ?_
  refine e_iaddN (pc := 583) d_lw_law_583 ?_
  refine e_sld (pc := 584) d_lw_law_584 (vp_inN (by omega) hG) ?_
  refine e_aload_n (pc := 585) d_lw_law_585 rfl ?_
  refine e_iload (pc := 586) d_lw_law_586 rfl ?_
  refine e_iconst (pc := 588) d_lw_law_588 (v := nI 3) rfl ?_
  refine e_iaddN (pc := 589) d_lw_law_589 ?_
  refine e_sld (pc := 590) d_lw_law_590 (vp_inN (by omega) hG) ?_
  refine e_aload_n (pc := 591) d_lw_law_591 rfl ?_
  have hA : Ag [IAE, ISE, NSE, UOE] (z_delete (G.2.2.2.2.2 (nI (i + 1)).toNatClampNeg) (G.2.2.2.2.2 (nI (i + 2)).toNatClampNeg) (G.2.2.2.2.2 (nI (i + 3)).toNatClampNeg) x) (m_delete (G.2.2.2.2.2 (nI (i + 1)).toNatClampNeg) (G.2.2.2.2.2 (nI (i + 2)).toNatClampNeg) (G.2.2.2.2.2 (nI (i + 3)).toNatClampNeg) ((fa, ld, ep, tm), L, S, C, W, T)) := eq_delete hs.1
  have hE : Ex x (z_delete (G.2.2.2.2.2 (nI (i + 1)).toNatClampNeg) (G.2.2.2.2.2 (nI (i + 2)).toNatClampNeg) (G.2.2.2.2.2 (nI (i + 3)).toNatClampNeg) x).2 := Ex_delete (G.2.2.2.2.2 (nI (i + 1)).toNatClampNeg) (G.2.2.2.2.2 (nI (i + 2)).toNatClampNeg) (G.2.2.2.2.2 (nI (i + 3)).toNatClampNeg) x
  have hP : Eq1 x (z_delete (G.2.2.2.2.2 (nI (i + 1)).toNatClampNeg) (G.2.2.2.2.2 (nI (i + 2)).toNatClampNeg) (G.2.2.2.2.2 (nI (i + 3)).toNatClampNeg) x).2 := Ep_delete (G.2.2.2.2.2 (nI (i + 1)).toNatClampNeg) (G.2.2.2.2.2 (nI (i + 2)).toNatClampNeg) (G.2.2.2.2.2 (nI (i + 3)).toNatClampNeg) x
  have h66 : x_h (z_delete (G.2.2.2.2.2 (nI (i + 1)).toNatClampNeg) (G.2.2.2.2.2 (nI (i + 2)).toNatClampNeg) (G.2.2.2.2.2 (nI (i + 3)).toNatClampNeg) x).2 66 = some (q_al 1 f) := (hE.2 66 hs.2.2.2).trans hs.2.2.1
  refine e_callSX (pc := 592) (cc2 := cc) (ss2 := ss) (As := [.ref 1, .int (G.2.2.2.2.2 (nI (i + 1)).toNatClampNeg), .int (G.2.2.2.2.2 (nI (i + 2)).toNatClampNeg), .int (G.2.2.2.2.2 (nI (i + 3)).toNatClampNeg), .ref 66]) (st := []) d_lw_law_592 rfl cx_lw_115 (c_lw_delete htr (r := z_delete (G.2.2.2.2.2 (nI (i + 1)).toNatClampNeg) (G.2.2.2.2.2 (nI (i + 2)).toNatClampNeg) (G.2.2.2.2.2 (nI (i + 3)).toNatClampNeg) x) rfl (c_zs_delete htr hs.1.1.1) h66 (Ag_Rs hA)) rfl (by decide) (Nat.le_of_ble_eq_true rfl) (Nat.le_of_eq (Nat.add_comm _ _)) (Nat.le_of_eq (Nat.add_comm _ _)) (by decide) (fun E h' N' hq => ?_) (fun rr h' N' hq => ?_)
  · obtain ⟨-, ⟨v, f9, -, z, -⟩ | ⟨c, E2, -, -, z, -⟩⟩ := hq
    · exact nomatch z
    · exact nomatch z
  obtain ⟨k, g, f2, m1, m2, m3, m4, m5, m6⟩ := MID hs hE hA (by decide) (by decide) hq
  have m7 : rr = some (.int (nI k)) := Sum.inl.inj m2
  subst m7
  subst m3
  refine e_istore (pc := 595) d_lw_law_595 (by decide) ?_
  refine e_aload_n (pc := 597) d_lw_law_597 rfl ?_
  refine e_aload_n (pc := 598) d_lw_law_598 rfl ?_
  refine e_iload (pc := 599) d_lw_law_599 rfl ?_
  refine e_iconst (pc := 601) d_lw_law_601 (v := nI 1) rfl ?_
  refine e_iaddN (pc := 602) d_lw_law_602 ?_
  refine e_sld (pc := 603) d_lw_law_603 (vp_inN (by omega) hG) ?_
  refine e_aload_n (pc := 604) d_lw_law_604 rfl ?_
  refine e_iload (pc := 605) d_lw_law_605 rfl ?_
  refine e_iconst (pc := 607) d_lw_law_607 (v := nI 2) rfl ?_
  refine e_iaddN (pc := 608) d_lw_law_608 ?_
  refine e_sld (pc := 609) d_lw_law_609 (vp_inN (by omega) hG) ?_
  refine e_aload_n (pc := 610) d_lw_law_610 rfl ?_
  refine e_iload (pc := 611) d_lw_law_611 rfl ?_
  refine e_iconst (pc := 613) d_lw_law_613 (v := nI 3) rfl ?_
  refine e_iaddN (pc := 614) d_lw_law_614 ?_
  refine e_sld (pc := 615) d_lw_law_615 (vp_inN (by omega) hG) ?_
  refine e_callV (pc := 616) (cc2 := cc) (ss2 := ss) (As := [.int (G.2.2.2.2.2 (nI (i + 1)).toNatClampNeg), .int (G.2.2.2.2.2 (nI (i + 2)).toNatClampNeg), .int (G.2.2.2.2.2 (nI (i + 3)).toNatClampNeg)]) (st := []) (b := 42) d_lw_law_616 rfl cv_lw_117 rfl rfl (c_md_delete htr (n := 72) (Nat.le_refl _) (IV_m hs.1.1)) rfl (by decide) (Nat.le_of_ble_eq_true rfl) (Nat.le_of_eq (Nat.zero_add _)) (Nat.le_of_eq (Nat.zero_add _)) (by decide) (fun E h' N2 hq2 => (by exact nomatch hq2.1)) (fun rr h' N2 hq2 => ?_)
  obtain ⟨n1, n2, n3⟩ := hq2
  have n4 : rr = some (.int (m_delete (G.2.2.2.2.2 (nI (i + 1)).toNatClampNeg) (G.2.2.2.2.2 (nI (i + 2)).toNatClampNeg) (G.2.2.2.2.2 (nI (i + 3)).toNatClampNeg) ((fa, ld, ep, tm), L, S, C, W, T)).1) := Sum.inl.inj n1
  subst n4
  subst n2
  subst n3
  refine e_istore (pc := 619) d_lw_law_619 (by decide) ?_
  exact tailL (t := 621) htr d_lw_law_621 d_lw_law_622 d_lw_law_625 d_lw_law_627 d_lw_law_632 d_lw_law_634 d_lw_law_637 d_lw_law_638 d_lw_law_639 d_lw_law_640 d_lw_law_642 d_lw_law_643 d_lw_law_644 d_lw_law_649 (by decide) m1 m5 m6 m4.2.2.1 (kk _ _ _ _ _ m4 hP)
set_option maxHeartbeats 1000000 in
theorem lc_get {l : Launch} {G : q_G} (htr : l.stackTraces = false) {x : zX} {M : mR} {f : Nat → Int64} {i cc ss : Nat} {k5 k6 : Option Value} {Q : q_Q} (hs : LSt x M f) (hi : i + 5 ≤ G.2.2.2.2.1) (hG : G.2.2.2.2.1 < 2 ^ 31) (hep : z_ep (x_R x) + 1 < 100000) (kk : ∀ x' M' f' k5 k6, LSt x' M' f' → Eq1 x x' → q_Ev l G m_lw_law 10 191 cc ss 1503 (lvL i k5 k6) [] (zs_put (x_h x') (x_R x')) (x_N x') Q) : q_Ev l G m_lw_law 10 191 (cc + 16) (ss + 96) 652 (lvL i k5 k6) [] (zs_put (x_h x) (x_R x)) (x_N x) Q := by
  obtain ⟨⟨fa, ld, ep, tm⟩, L, S, C, W, T⟩ := M
  refine e_aload_n (pc := 652) d_lw_law_652 rfl ?_
  refine e_aload_n (pc := 653) d_lw_law_653 rfl ?_
  refine e_iload (pc := 654) d_lw_law_654 rfl ?_
  refine e_iconst (pc := 656) d_lw_law_656 (v := nI 1) rfl ?_
  refine e_iaddN (pc := 657) d_lw_law_657 ?_
  refine e_sld (pc := 658) d_lw_law_658 (vp_inN (by omega) hG) ?_
  refine e_aload_n (pc := 659) d_lw_law_659 rfl ?_
  refine e_iload (pc := 660) d_lw_law_660 rfl ?_
  refine e_iconst (pc := 662) d_lw_law_662 (v := nI 2) rfl ?_
  refine e_iaddN (pc := 663) d_lw_law_663 ?_
  refine e_sld (pc := 664) d_lw_law_664 (vp_inN (by omega) hG) ?_
  refine e_aload_n (pc := 665) d_lw_law_665 rfl ?_
  refine e_iload (pc := 666) d_lw_law_666 rfl ?_
  refine e_iconst (pc := 668) d_lw_law_668 (v := nI 3) rfl ?_
  refine e_iaddN (pc := 669) d_lw_law_669 ?_
  refine e_sld (pc := 670) d_lw_law_670 (vp_inN (by omega) hG) ?_
  refine e_ne0 (pc := 671) (A := 678) (B := 679) d_lw_law_671 (by decide) d_lw_law_674 d_lw_law_675 (by decide) d_lw_law_678 rfl ?_
  refine e_aload_n (pc := 679) d_lw_law_679 rfl ?_
  have hA : Ag [IAE, ISE, NSE] (z_get (G.2.2.2.2.2 (nI (i + 1)).toNatClampNeg) (G.2.2.2.2.2 (nI (i + 2)).toNatClampNeg) (decide (¬ G.2.2.2.2.2 (nI (i + 3)).toNatClampNeg = 0)) x) (m_get (G.2.2.2.2.2 (nI (i + 1)).toNatClampNeg) (G.2.2.2.2.2 (nI (i + 2)).toNatClampNeg) (decide (¬ G.2.2.2.2.2 (nI (i + 3)).toNatClampNeg = 0)) ((fa, ld, ep, tm), L, S, C, W, T)) := eq_get hs.1
  have hE : Ex x (z_get (G.2.2.2.2.2 (nI (i + 1)).toNatClampNeg) (G.2.2.2.2.2 (nI (i + 2)).toNatClampNeg) (decide (¬ G.2.2.2.2.2 (nI (i + 3)).toNatClampNeg = 0)) x).2 := Ex_get (G.2.2.2.2.2 (nI (i + 1)).toNatClampNeg) (G.2.2.2.2.2 (nI (i + 2)).toNatClampNeg) (decide (¬ G.2.2.2.2.2 (nI (i + 3)).toNatClampNeg = 0)) x
  have hP : Eq1 x (z_get (G.2.2.2.2.2 (nI (i + 1)).toNatClampNeg) (G.2.2.2.2.2 (nI (i + 2)).toNatClampNeg) (decide (¬ G.2.2.2.2.2 (nI (i + 3)).toNatClampNeg = 0)) x).2 := Ep_get (G.2.2.2.2.2 (nI (i + 1)).toNatClampNeg) (G.2.2.2.2.2 (nI (i + 2)).toNatClampNeg) (decide (¬ G.2.2.2.2.2 (nI (i + 3)).toNatClampNeg = 0)) x
  have h66 : x_h (z_get (G.2.2.2.2.2 (nI (i + 1)).toNatClampNeg) (G.2.2.2.2.2 (nI (i + 2)).toNatClampNeg) (decide (¬ G.2.2.2.2.2 (nI (i + 3)).toNatClampNeg = 0)) x).2 66 = some (q_al 1 f) := (hE.2 66 hs.2.2.2).trans hs.2.2.1
  refine e_callSX (pc := 680) (cc2 := cc) (ss2 := ss) (As := [.ref 1, .int (G.2.2.2.2.2 (nI (i + 1)).toNatClampNeg), .int (G.2.2.2.2.2 (nI (i + 2)).toNatClampNeg), .int (bI (decide (¬ G.2.2.2.2.2 (nI (i + 3)).toNatClampNeg = 0))), .ref 66]) (st := []) d_lw_law_680 rfl cx_lw_118 (c_lw_get htr (r := z_get (G.2.2.2.2.2 (nI (i + 1)).toNatClampNeg) (G.2.2.2.2.2 (nI (i + 2)).toNatClampNeg) (decide (¬ G.2.2.2.2.2 (nI (i + 3)).toNatClampNeg = 0)) x) rfl (c_zs_get htr hs.1.1.1) h66 (Ag_Rs hA)) rfl (by decide) (Nat.le_of_ble_eq_true rfl) (Nat.le_of_eq (Nat.add_comm _ _)) (Nat.le_of_eq (Nat.add_comm _ _)) (by decide) (fun E h' N' hq => ?_) (fun rr h' N' hq => ?_)
  · obtain ⟨-, ⟨v, f9, -, z, -⟩ | ⟨c, E2, -, -, z, -⟩⟩ := hq
    · exact nomatch z
    · exact nomatch z
  obtain ⟨k, g, f2, m1, m2, m3, m4, m5, m6⟩ := MID hs hE hA (by decide) (by decide) hq
  have m7 : rr = some (.int (nI k)) := Sum.inl.inj m2
  subst m7
  subst m3
  refine e_istore (pc := 683) d_lw_law_683 (by decide) ?_
  refine e_aload_n (pc := 685) d_lw_law_685 rfl ?_
  refine e_aload_n (pc := 686) d_lw_law_686 rfl ?_
  refine e_iload (pc := 687) d_lw_law_687 rfl ?_
  refine e_iconst (pc := 689) d_lw_law_689 (v := nI 1) rfl ?_
  refine e_iaddN (pc := 690) d_lw_law_690 ?_
  refine e_sld (pc := 691) d_lw_law_691 (vp_inN (by omega) hG) ?_
  refine e_aload_n (pc := 692) d_lw_law_692 rfl ?_
  refine e_iload (pc := 693) d_lw_law_693 rfl ?_
  refine e_iconst (pc := 695) d_lw_law_695 (v := nI 2) rfl ?_
  refine e_iaddN (pc := 696) d_lw_law_696 ?_
  refine e_sld (pc := 697) d_lw_law_697 (vp_inN (by omega) hG) ?_
  refine e_aload_n (pc := 698) d_lw_law_698 rfl ?_
  refine e_iload (pc := 699) d_lw_law_699 rfl ?_
  refine e_iconst (pc := 701) d_lw_law_701 (v := nI 3) rfl ?_
  refine e_iaddN (pc := 702) d_lw_law_702 ?_
  refine e_sld (pc := 703) d_lw_law_703 (vp_inN (by omega) hG) ?_
  refine e_ne0 (pc := 704) (A := 711) (B := 712) d_lw_law_704 (by decide) d_lw_law_707 d_lw_law_708 (by decide) d_lw_law_711 rfl ?_
  refine e_callV (pc := 712) (cc2 := cc) (ss2 := ss) (As := [.int (G.2.2.2.2.2 (nI (i + 1)).toNatClampNeg), .int (G.2.2.2.2.2 (nI (i + 2)).toNatClampNeg), .int (bI (decide (¬ G.2.2.2.2.2 (nI (i + 3)).toNatClampNeg = 0)))]) (st := []) (b := 42) d_lw_law_712 rfl cv_lw_121 rfl rfl (c_md_get htr (n := 72) (Nat.le_refl _) (IV_m hs.1.1)) rfl (by decide) (Nat.le_of_ble_eq_true rfl) (Nat.le_of_eq (Nat.zero_add _)) (Nat.le_of_eq (Nat.zero_add _)) (by decide) (fun E h' N2 hq2 => (by exact nomatch hq2.1)) (fun rr h' N2 hq2 => ?_)
  obtain ⟨n1, n2, n3⟩ := hq2
  have n4 : rr = some (.int (m_get (G.2.2.2.2.2 (nI (i + 1)).toNatClampNeg) (G.2.2.2.2.2 (nI (i + 2)).toNatClampNeg) (decide (¬ G.2.2.2.2.2 (nI (i + 3)).toNatClampNeg = 0)) ((fa, ld, ep, tm), L, S, C, W, T)).1) := Sum.inl.inj n1
  subst n4
  subst n2
  subst n3
  refine e_istore (pc := 715) d_lw_law_715 (by decide) ?_
  exact tailL (t := 717) htr d_lw_law_717 d_lw_law_718 d_lw_law_721 d_lw_law_723 d_lw_law_728 d_lw_law_730 d_lw_law_733 d_lw_law_734 d_lw_law_735 d_lw_law_736 d_lw_law_738 d_lw_law_739 d_lw_law_740 d_lw_law_745 (by decide) m1 m5 m6 m4.2.2.1 (kk _ _ _ _ _ m4 hP)
set_option maxHeartbeats 1000000 in
theorem lc_exists {l : Launch} {G : q_G} (htr : l.stackTraces = false) {x : zX} {M : mR} {f : Nat → Int64} {i cc ss : Nat} {k5 k6 : Option Value} {Q : q_Q} (hs : LSt x M f) (hi : i + 5 ≤ G.2.2.2.2.1) (hG : G.2.2.2.2.1 < 2 ^ 31) (hep : z_ep (x_R x) + 1 < 100000) (kk : ∀ x' M' f' k5 k6, LSt x' M' f' → Eq1 x x' → q_Ev l G m_lw_law 10 191 cc ss 1503 (lvL i k5 k6) [] (zs_put (x_h x') (x_R x')) (x_N x') Q) : q_Ev l G m_lw_law 10 191 (cc + 16) (ss + 96) 748 (lvL i k5 k6) [] (zs_put (x_h x) (x_R x)) (x_N x) Q := by
  obtain ⟨⟨fa, ld, ep, tm⟩, L, S, C, W, T⟩ := M
  refine e_aload_n (pc := 748) d_lw_law_748 rfl ?_
  refine e_aload_n (pc := 749) d_lw_law_749 rfl ?_
  refine e_iload (pc := 750) d_lw_law_750 rfl ?_
  refine e_iconst (pc := 752) d_lw_law_752 (v := nI 1) rfl ?_
  refine e_iaddN (pc := 753) d_lw_law_753 ?_
  refine e_sld (pc := 754) d_lw_law_754 (vp_inN (by omega) hG) ?_
  refine e_aload_n (pc := 755) d_lw_law_755 rfl ?_
  refine e_iload (pc := 756) d_lw_law_756 rfl ?_
  refine e_iconst (pc := 758) d_lw_law_758 (v := nI 2) rfl ?_
  refine e_iaddN (pc := 759) d_lw_law_759 ?_
  refine e_sld (pc := 760) d_lw_law_760 (vp_inN (by omega) hG) ?_
  refine e_aload_n (pc := 761) d_lw_law_761 rfl ?_
  refine e_iload (pc := 762) d_lw_law_762 rfl ?_
  refine e_iconst (pc := 764) d_lw_law_764 (v := nI 3) rfl ?_
  refine e_iaddN (pc := 765) d_lw_law_765 ?_
  refine e_sld (pc := 766) d_lw_law_766 (vp_inN (by omega) hG) ?_
  refine e_ne0 (pc := 767) (A := 774) (B := 775) d_lw_law_767 (by decide) d_lw_law_770 d_lw_law_771 (by decide) d_lw_law_774 rfl ?_
  refine e_aload_n (pc := 775) d_lw_law_775 rfl ?_
  have hA : Ag [IAE, ISE] (z_exists (G.2.2.2.2.2 (nI (i + 1)).toNatClampNeg) (G.2.2.2.2.2 (nI (i + 2)).toNatClampNeg) (decide (¬ G.2.2.2.2.2 (nI (i + 3)).toNatClampNeg = 0)) x) (m_exists (G.2.2.2.2.2 (nI (i + 1)).toNatClampNeg) (G.2.2.2.2.2 (nI (i + 2)).toNatClampNeg) (decide (¬ G.2.2.2.2.2 (nI (i + 3)).toNatClampNeg = 0)) ((fa, ld, ep, tm), L, S, C, W, T)) := eq_exists hs.1
  have hE : Ex x (z_exists (G.2.2.2.2.2 (nI (i + 1)).toNatClampNeg) (G.2.2.2.2.2 (nI (i + 2)).toNatClampNeg) (decide (¬ G.2.2.2.2.2 (nI (i + 3)).toNatClampNeg = 0)) x).2 := Ex_exists (G.2.2.2.2.2 (nI (i + 1)).toNatClampNeg) (G.2.2.2.2.2 (nI (i + 2)).toNatClampNeg) (decide (¬ G.2.2.2.2.2 (nI (i + 3)).toNatClampNeg = 0)) x
  have hP : Eq1 x (z_exists (G.2.2.2.2.2 (nI (i + 1)).toNatClampNeg) (G.2.2.2.2.2 (nI (i + 2)).toNatClampNeg) (decide (¬ G.2.2.2.2.2 (nI (i + 3)).toNatClampNeg = 0)) x).2 := Ep_exists (G.2.2.2.2.2 (nI (i + 1)).toNatClampNeg) (G.2.2.2.2.2 (nI (i + 2)).toNatClampNeg) (decide (¬ G.2.2.2.2.2 (nI (i + 3)).toNatClampNeg = 0)) x
  have h66 : x_h (z_exists (G.2.2.2.2.2 (nI (i + 1)).toNatClampNeg) (G.2.2.2.2.2 (nI (i + 2)).toNatClampNeg) (decide (¬ G.2.2.2.2.2 (nI (i + 3)).toNatClampNeg = 0)) x).2 66 = some (q_al 1 f) := (hE.2 66 hs.2.2.2).trans hs.2.2.1
  refine e_callSX (pc := 776) (cc2 := cc) (ss2 := ss) (As := [.ref 1, .int (G.2.2.2.2.2 (nI (i + 1)).toNatClampNeg), .int (G.2.2.2.2.2 (nI (i + 2)).toNatClampNeg), .int (bI (decide (¬ G.2.2.2.2.2 (nI (i + 3)).toNatClampNeg = 0))), .ref 66]) (st := []) d_lw_law_776 rfl cx_lw_122 (c_lw_exists htr (r := z_exists (G.2.2.2.2.2 (nI (i + 1)).toNatClampNeg) (G.2.2.2.2.2 (nI (i + 2)).toNatClampNeg) (decide (¬ G.2.2.2.2.2 (nI (i + 3)).toNatClampNeg = 0)) x) rfl (c_zs_exists htr hs.1.1.1) h66 (Ag_Rs hA) zex_b) rfl (by decide) (Nat.le_of_ble_eq_true rfl) (Nat.le_of_eq (Nat.add_comm _ _)) (Nat.le_of_eq (Nat.add_comm _ _)) (by decide) (fun E h' N' hq => ?_) (fun rr h' N' hq => ?_)
  · obtain ⟨-, ⟨v, f9, -, z, -⟩ | ⟨c, E2, -, -, z, -⟩⟩ := hq
    · exact nomatch z
    · exact nomatch z
  obtain ⟨k, g, f2, m1, m2, m3, m4, m5, m6⟩ := MID hs hE hA (by decide) (by decide) hq
  have m7 : rr = some (.int (nI k)) := Sum.inl.inj m2
  subst m7
  subst m3
  refine e_istore (pc := 779) d_lw_law_779 (by decide) ?_
  refine e_aload_n (pc := 781) d_lw_law_781 rfl ?_
  refine e_aload_n (pc := 782) d_lw_law_782 rfl ?_
  refine e_iload (pc := 783) d_lw_law_783 rfl ?_
  refine e_iconst (pc := 785) d_lw_law_785 (v := nI 1) rfl ?_
  refine e_iaddN (pc := 786) d_lw_law_786 ?_
  refine e_sld (pc := 787) d_lw_law_787 (vp_inN (by omega) hG) ?_
  refine e_aload_n (pc := 788) d_lw_law_788 rfl ?_
  refine e_iload (pc := 789) d_lw_law_789 rfl ?_
  refine e_iconst (pc := 791) d_lw_law_791 (v := nI 2) rfl ?_
  refine e_iaddN (pc := 792) d_lw_law_792 ?_
  refine e_sld (pc := 793) d_lw_law_793 (vp_inN (by omega) hG) ?_
  refine e_aload_n (pc := 794) d_lw_law_794 rfl ?_
  refine e_iload (pc := 795) d_lw_law_795 rfl ?_
  refine e_iconst (pc := 797) d_lw_law_797 (v := nI 3) rfl ?_
  refine e_iaddN (pc := 798) d_lw_law_798 ?_
  refine e_sld (pc := 799) d_lw_law_799 (vp_inN (by omega) hG) ?_
  refine e_ne0 (pc := 800) (A := 807) (B := 808) d_lw_law_800 (by decide) d_lw_law_803 d_lw_law_804 (by decide) d_lw_law_807 rfl ?_
  refine e_callV (pc := 808) (cc2 := cc) (ss2 := ss) (As := [.int (G.2.2.2.2.2 (nI (i + 1)).toNatClampNeg), .int (G.2.2.2.2.2 (nI (i + 2)).toNatClampNeg), .int (bI (decide (¬ G.2.2.2.2.2 (nI (i + 3)).toNatClampNeg = 0)))]) (st := []) (b := 42) d_lw_law_808 rfl cv_lw_124 rfl rfl (c_md_exists htr (n := 72) (Nat.le_refl _) (IV_m hs.1.1)) rfl (by decide) (Nat.le_of_ble_eq_true rfl) (Nat.le_of_eq (Nat.zero_add _)) (Nat.le_of_eq (Nat.zero_add _)) (by decide) (fun E h' N2 hq2 => (by exact nomatch hq2.1)) (fun rr h' N2 hq2 => ?_)
  obtain ⟨n1, n2, n3⟩ := hq2
  have n4 : rr = some (.int (m_exists (G.2.2.2.2.2 (nI (i + 1)).toNatClampNeg) (G.2.2.2.2.2 (nI (i + 2)).toNatClampNeg) (decide (¬ G.2.2.2.2.2 (nI (i + 3)).toNatClampNeg = 0)) ((fa, ld, ep, tm), L, S, C, W, T)).1) := Sum.inl.inj n1
  subst n4
  subst n2
  subst n3
  refine e_istore (pc := 811) d_lw_law_811 (by decide) ?_
  obtain ⟨b2, hb2⟩ := mex_b (s := G.2.2.2.2.2 (nI (i + 1)).toNatClampNeg) (q := G.2.2.2.2.2 (nI (i + 2)).toNatClampNeg) (b := decide (¬ G.2.2.2.2.2 (nI (i + 3)).toNatClampNeg = 0)) (M := ((fa, ld, ep, tm), L, S, C, W, T))
  exact tailE (t := 813) htr d_lw_law_813 d_lw_law_814 d_lw_law_817 d_lw_law_819 d_lw_law_824 d_lw_law_826 d_lw_law_829 d_lw_law_830 d_lw_law_831 d_lw_law_832 d_lw_law_834 d_lw_law_837 d_lw_law_838 d_lw_law_841 d_lw_law_842 d_lw_law_843 d_lw_law_848 (by decide) m1 m5 m6 hb2 m4.2.2.1 (kk _ _ _ _ _ m4 hP)
set_option maxHeartbeats 1000000 in
theorem lc_children {l : Launch} {G : q_G} (htr : l.stackTraces = false) {x : zX} {M : mR} {f : Nat → Int64} {i cc ss : Nat} {k5 k6 : Option Value} {Q : q_Q} (hs : LSt x M f) (hi : i + 5 ≤ G.2.2.2.2.1) (hG : G.2.2.2.2.1 < 2 ^ 31) (hep : z_ep (x_R x) + 1 < 100000) (kk : ∀ x' M' f' k5 k6, LSt x' M' f' → Eq1 x x' → q_Ev l G m_lw_law 10 191 cc ss 1503 (lvL i k5 k6) [] (zs_put (x_h x') (x_R x')) (x_N x') Q) : q_Ev l G m_lw_law 10 191 (cc + 16) (ss + 96) 851 (lvL i k5 k6) [] (zs_put (x_h x) (x_R x)) (x_N x) Q := by
  obtain ⟨⟨fa, ld, ep, tm⟩, L, S, C, W, T⟩ := M
  refine e_aload_n (pc := 851) d_lw_law_851 rfl ?_
  refine e_aload_n (pc := 852) d_lw_law_852 rfl ?_
  refine e_iload (pc := 853) d_lw_law_853 rfl ?_
  refine e_iconst (pc := 855) d_lw_law_855 (v := nI 1) rfl ?_
  refine e_iaddN (pc := 856) d_lw_law_856 ?_
  refine e_sld (pc := 857) d_lw_law_857 (vp_inN (by omega) hG) ?_
  refine e_aload_n (pc := 858) d_lw_law_858 rfl ?_
  refine e_iload (pc := 859) d_lw_law_859 rfl ?_
  refine e_iconst (pc := 861) d_lw_law_861 (v := nI 2) rfl ?_
  refine e_iaddN (pc := 862) d_lw_law_862 ?_
  refine e_sld (pc := 863) d_lw_law_863 (vp_inN (by omega) hG) ?_
  refine e_aload_n (pc := 864) d_lw_law_864 rfl ?_
  refine e_iload (pc := 865) d_lw_law_865 rfl ?_
  refine e_iconst (pc := 867) d_lw_law_867 (v := nI 3) rfl ?_
  refine e_iaddN (pc := 868) d_lw_law_868 ?_
  refine e_sld (pc := 869) d_lw_law_869 (vp_inN (by omega) hG) ?_
  refine e_ne0 (pc := 870) (A := 877) (B := 878) d_lw_law_870 (by decide) d_lw_law_873 d_lw_law_874 (by decide) d_lw_law_877 rfl ?_
  refine e_aload_n (pc := 878) d_lw_law_878 rfl ?_
  have hA : Ag [IAE, ISE, NSE] (z_children (G.2.2.2.2.2 (nI (i + 1)).toNatClampNeg) (G.2.2.2.2.2 (nI (i + 2)).toNatClampNeg) (decide (¬ G.2.2.2.2.2 (nI (i + 3)).toNatClampNeg = 0)) x) (m_children (G.2.2.2.2.2 (nI (i + 1)).toNatClampNeg) (G.2.2.2.2.2 (nI (i + 2)).toNatClampNeg) (decide (¬ G.2.2.2.2.2 (nI (i + 3)).toNatClampNeg = 0)) ((fa, ld, ep, tm), L, S, C, W, T)) := eq_children hs.1
  have hE : Ex x (z_children (G.2.2.2.2.2 (nI (i + 1)).toNatClampNeg) (G.2.2.2.2.2 (nI (i + 2)).toNatClampNeg) (decide (¬ G.2.2.2.2.2 (nI (i + 3)).toNatClampNeg = 0)) x).2 := Ex_children (G.2.2.2.2.2 (nI (i + 1)).toNatClampNeg) (G.2.2.2.2.2 (nI (i + 2)).toNatClampNeg) (decide (¬ G.2.2.2.2.2 (nI (i + 3)).toNatClampNeg = 0)) x
  have hP : Eq1 x (z_children (G.2.2.2.2.2 (nI (i + 1)).toNatClampNeg) (G.2.2.2.2.2 (nI (i + 2)).toNatClampNeg) (decide (¬ G.2.2.2.2.2 (nI (i + 3)).toNatClampNeg = 0)) x).2 := Ep_children (G.2.2.2.2.2 (nI (i + 1)).toNatClampNeg) (G.2.2.2.2.2 (nI (i + 2)).toNatClampNeg) (decide (¬ G.2.2.2.2.2 (nI (i + 3)).toNatClampNeg = 0)) x
  have h66 : x_h (z_children (G.2.2.2.2.2 (nI (i + 1)).toNatClampNeg) (G.2.2.2.2.2 (nI (i + 2)).toNatClampNeg) (decide (¬ G.2.2.2.2.2 (nI (i + 3)).toNatClampNeg = 0)) x).2 66 = some (q_al 1 f) := (hE.2 66 hs.2.2.2).trans hs.2.2.1
  refine e_callSX (pc := 879) (cc2 := cc) (ss2 := ss) (As := [.ref 1, .int (G.2.2.2.2.2 (nI (i + 1)).toNatClampNeg), .int (G.2.2.2.2.2 (nI (i + 2)).toNatClampNeg), .int (bI (decide (¬ G.2.2.2.2.2 (nI (i + 3)).toNatClampNeg = 0))), .ref 66]) (st := []) d_lw_law_879 rfl cx_lw_125 (c_lw_children htr (r := z_children (G.2.2.2.2.2 (nI (i + 1)).toNatClampNeg) (G.2.2.2.2.2 (nI (i + 2)).toNatClampNeg) (decide (¬ G.2.2.2.2.2 (nI (i + 3)).toNatClampNeg = 0)) x) rfl (c_zs_children htr hs.1.1.1) h66 (Ag_Rs hA)) rfl (by decide) (Nat.le_of_ble_eq_true rfl) (Nat.le_of_eq (Nat.add_comm _ _)) (Nat.le_of_eq (Nat.add_comm _ _)) (by decide) (fun E h' N' hq => ?_) (fun rr h' N' hq => ?_)
  · obtain ⟨-, ⟨v, f9, -, z, -⟩ | ⟨c, E2, -, -, z, -⟩⟩ := hq
    · exact nomatch z
    · exact nomatch z
  obtain ⟨k, g, f2, m1, m2, m3, m4, m5, m6⟩ := MID hs hE hA (by decide) (by decide) hq
  have m7 : rr = some (.int (nI k)) := Sum.inl.inj m2
  subst m7
  subst m3
  refine e_istore (pc := 882) d_lw_law_882 (by decide) ?_
  refine e_aload_n (pc := 884) d_lw_law_884 rfl ?_
  refine e_aload_n (pc := 885) d_lw_law_885 rfl ?_
  refine e_iload (pc := 886) d_lw_law_886 rfl ?_
  refine e_iconst (pc := 888) d_lw_law_888 (v := nI 1) rfl ?_
  refine e_iaddN (pc := 889) d_lw_law_889 ?_
  refine e_sld (pc := 890) d_lw_law_890 (vp_inN (by omega) hG) ?_
  refine e_aload_n (pc := 891) d_lw_law_891 rfl ?_
  refine e_iload (pc := 892) d_lw_law_892 rfl ?_
  refine e_iconst (pc := 894) d_lw_law_894 (v := nI 2) rfl ?_
  refine e_iaddN (pc := 895) d_lw_law_895 ?_
  refine e_sld (pc := 896) d_lw_law_896 (vp_inN (by omega) hG) ?_
  refine e_aload_n (pc := 897) d_lw_law_897 rfl ?_
  refine e_iload (pc := 898) d_lw_law_898 rfl ?_
  refine e_iconst (pc := 900) d_lw_law_900 (v := nI 3) rfl ?_
  refine e_iaddN (pc := 901) d_lw_law_901 ?_
  refine e_sld (pc := 902) d_lw_law_902 (vp_inN (by omega) hG) ?_
  refine e_ne0 (pc := 903) (A := 910) (B := 911) d_lw_law_903 (by decide) d_lw_law_906 d_lw_law_907 (by decide) d_lw_law_910 rfl ?_
  refine e_callV (pc := 911) (cc2 := cc) (ss2 := ss) (As := [.int (G.2.2.2.2.2 (nI (i + 1)).toNatClampNeg), .int (G.2.2.2.2.2 (nI (i + 2)).toNatClampNeg), .int (bI (decide (¬ G.2.2.2.2.2 (nI (i + 3)).toNatClampNeg = 0)))]) (st := []) (b := 42) d_lw_law_911 rfl cv_lw_127 rfl rfl (c_md_children htr (n := 72) (Nat.le_refl _) (IV_m hs.1.1)) rfl (by decide) (Nat.le_of_ble_eq_true rfl) (Nat.le_of_eq (Nat.zero_add _)) (Nat.le_of_eq (Nat.zero_add _)) (by decide) (fun E h' N2 hq2 => (by exact nomatch hq2.1)) (fun rr h' N2 hq2 => ?_)
  obtain ⟨n1, n2, n3⟩ := hq2
  have n4 : rr = some (.int (m_children (G.2.2.2.2.2 (nI (i + 1)).toNatClampNeg) (G.2.2.2.2.2 (nI (i + 2)).toNatClampNeg) (decide (¬ G.2.2.2.2.2 (nI (i + 3)).toNatClampNeg = 0)) ((fa, ld, ep, tm), L, S, C, W, T)).1) := Sum.inl.inj n1
  subst n4
  subst n2
  subst n3
  refine e_istore (pc := 914) d_lw_law_914 (by decide) ?_
  exact tailL (t := 916) htr d_lw_law_916 d_lw_law_917 d_lw_law_920 d_lw_law_922 d_lw_law_927 d_lw_law_929 d_lw_law_932 d_lw_law_933 d_lw_law_934 d_lw_law_935 d_lw_law_937 d_lw_law_938 d_lw_law_939 d_lw_law_944 (by decide) m1 m5 m6 m4.2.2.1 (kk _ _ _ _ _ m4 hP)
set_option maxHeartbeats 1000000 in
theorem lc_fact {l : Launch} {G : q_G} (htr : l.stackTraces = false) {x : zX} {M : mR} {f : Nat → Int64} {i cc ss : Nat} {k5 k6 : Option Value} {Q : q_Q} (hs : LSt x M f) (hi : i + 5 ≤ G.2.2.2.2.1) (hG : G.2.2.2.2.1 < 2 ^ 31) (hep : z_ep (x_R x) + 1 < 100000) (kk : ∀ x' M' f' k5 k6, LSt x' M' f' → Eq1 x x' → q_Ev l G m_lw_law 10 191 cc ss 1503 (lvL i k5 k6) [] (zs_put (x_h x') (x_R x')) (x_N x') Q) : q_Ev l G m_lw_law 10 191 (cc + 16) (ss + 96) 947 (lvL i k5 k6) [] (zs_put (x_h x) (x_R x)) (x_N x) Q := by
  obtain ⟨⟨fa, ld, ep, tm⟩, L, S, C, W, T⟩ := M
  refine e_aload_n (pc := 947) d_lw_law_947 rfl ?_
  refine e_aload_n (pc := 948) d_lw_law_948 rfl ?_
  refine e_iload (pc := 949) d_lw_law_949 rfl ?_
  refine e_iconst (pc := 951) d_lw_law_951 (v := nI 1) rfl ?_
  refine e_iaddN (pc := 952) d_lw_law_952 ?_
  refine e_sld (pc := 953) d_lw_law_953 (vp_inN (by omega) hG) ?_
  refine e_aload_n (pc := 954) d_lw_law_954 rfl ?_
  refine e_iload (pc := 955) d_lw_law_955 rfl ?_
  refine e_iconst (pc := 957) d_lw_law_957 (v := nI 2) rfl ?_
  refine e_iaddN (pc := 958) d_lw_law_958 ?_
  refine e_sld (pc := 959) d_lw_law_959 (vp_inN (by omega) hG) ?_
  refine e_aload_n (pc := 960) d_lw_law_960 rfl ?_
  refine e_iload (pc := 961) d_lw_law_961 rfl ?_
  refine e_iconst (pc := 963) d_lw_law_963 (v := nI 3) rfl ?_
  refine e_iaddN (pc := 964) d_lw_law_964 ?_
  refine e_sld (pc := 965) d_lw_law_965 (vp_inN (by omega) hG) ?_
  refine e_aload_n (pc := 966) d_lw_law_966 rfl ?_
  have hA : Ag [IAE, ISE, NSE] (z_fact (G.2.2.2.2.2 (nI (i + 1)).toNatClampNeg) (G.2.2.2.2.2 (nI (i + 2)).toNatClampNeg) (G.2.2.2.2.2 (nI (i + 3)).toNatClampNeg) x) (m_fact (G.2.2.2.2.2 (nI (i + 1)).toNatClampNeg) (G.2.2.2.2.2 (nI (i + 2)).toNatClampNeg) (G.2.2.2.2.2 (nI (i + 3)).toNatClampNeg) ((fa, ld, ep, tm), L, S, C, W, T)) := eq_fact hs.1
  have hE : Ex x (z_fact (G.2.2.2.2.2 (nI (i + 1)).toNatClampNeg) (G.2.2.2.2.2 (nI (i + 2)).toNatClampNeg) (G.2.2.2.2.2 (nI (i + 3)).toNatClampNeg) x).2 := Ex_fact (G.2.2.2.2.2 (nI (i + 1)).toNatClampNeg) (G.2.2.2.2.2 (nI (i + 2)).toNatClampNeg) (G.2.2.2.2.2 (nI (i + 3)).toNatClampNeg) x
  have hP : Eq1 x (z_fact (G.2.2.2.2.2 (nI (i + 1)).toNatClampNeg) (G.2.2.2.2.2 (nI (i + 2)).toNatClampNeg) (G.2.2.2.2.2 (nI (i + 3)).toNatClampNeg) x).2 := Ep_fact (G.2.2.2.2.2 (nI (i + 1)).toNatClampNeg) (G.2.2.2.2.2 (nI (i + 2)).toNatClampNeg) (G.2.2.2.2.2 (nI (i + 3)).toNatClampNeg) x
  have h66 : x_h (z_fact (G.2.2.2.2.2 (nI (i + 1)).toNatClampNeg) (G.2.2.2.2.2 (nI (i + 2)).toNatClampNeg) (G.2.2.2.2.2 (nI (i + 3)).toNatClampNeg) x).2 66 = some (q_al 1 f) := (hE.2 66 hs.2.2.2).trans hs.2.2.1
  refine e_callSX (pc := 967) (cc2 := cc) (ss2 := ss) (As := [.ref 1, .int (G.2.2.2.2.2 (nI (i + 1)).toNatClampNeg), .int (G.2.2.2.2.2 (nI (i + 2)).toNatClampNeg), .int (G.2.2.2.2.2 (nI (i + 3)).toNatClampNeg), .ref 66]) (st := []) d_lw_law_967 rfl cx_lw_128 (c_lw_fact htr (r := z_fact (G.2.2.2.2.2 (nI (i + 1)).toNatClampNeg) (G.2.2.2.2.2 (nI (i + 2)).toNatClampNeg) (G.2.2.2.2.2 (nI (i + 3)).toNatClampNeg) x) rfl (c_zs_fact htr hs.1.1.1) h66 (Ag_Rs hA)) rfl (by decide) (Nat.le_of_ble_eq_true rfl) (Nat.le_of_eq (Nat.add_comm _ _)) (Nat.le_of_eq (Nat.add_comm _ _)) (by decide) (fun E h' N' hq => ?_) (fun rr h' N' hq => ?_)
  · obtain ⟨-, ⟨v, f9, -, z, -⟩ | ⟨c, E2, -, -, z, -⟩⟩ := hq
    · exact nomatch z
    · exact nomatch z
  obtain ⟨k, g, f2, m1, m2, m3, m4, m5, m6⟩ := MID hs hE hA (by decide) (by decide) hq
  have m7 : rr = some (.int (nI k)) := Sum.inl.inj m2
  subst m7
  subst m3
  refine e_istore (pc := 970) d_lw_law_970 (by decide) ?_
  refine e_aload_n (pc := 972) d_lw_law_972 rfl ?_
  refine e_aload_n (pc := 973) d_lw_law_973 rfl ?_
  refine e_iload (pc := 974) d_lw_law_974 rfl ?_
  refine e_iconst (pc := 976) d_lw_law_976 (v := nI 1) rfl ?_
  refine e_iaddN (pc := 977) d_lw_law_977 ?_
  refine e_sld (pc := 978) d_lw_law_978 (vp_inN (by omega) hG) ?_
  refine e_aload_n (pc := 979) d_lw_law_979 rfl ?_
  refine e_iload (pc := 980) d_lw_law_980 rfl ?_
  refine e_iconst (pc := 982) d_lw_law_982 (v := nI 2) rfl ?_
  refine e_iaddN (pc := 983) d_lw_law_983 ?_
  refine e_sld (pc := 984) d_lw_law_984 (vp_inN (by omega) hG) ?_
  refine e_aload_n (pc := 985) d_lw_law_985 rfl ?_
  refine e_iload (pc := 986) d_lw_law_986 rfl ?_
  refine e_iconst (pc := 988) d_lw_law_988 (v := nI 3) rfl ?_
  refine e_iaddN (pc := 989) d_lw_law_989 ?_
  refine e_sld (pc := 990) d_lw_law_990 (vp_inN (by omega) hG) ?_
  refine e_callV (pc := 991) (cc2 := cc) (ss2 := ss) (As := [.int (G.2.2.2.2.2 (nI (i + 1)).toNatClampNeg), .int (G.2.2.2.2.2 (nI (i + 2)).toNatClampNeg), .int (G.2.2.2.2.2 (nI (i + 3)).toNatClampNeg)]) (st := []) (b := 42) d_lw_law_991 rfl cv_lw_130 rfl rfl (c_md_fact htr (n := 72) (Nat.le_refl _) (IV_m hs.1.1)) rfl (by decide) (Nat.le_of_ble_eq_true rfl) (Nat.le_of_eq (Nat.zero_add _)) (Nat.le_of_eq (Nat.zero_add _)) (by decide) (fun E h' N2 hq2 => (by exact nomatch hq2.1)) (fun rr h' N2 hq2 => ?_)
  obtain ⟨n1, n2, n3⟩ := hq2
  have n4 : rr = some (.int (m_fact (G.2.2.2.2.2 (nI (i + 1)).toNatClampNeg) (G.2.2.2.2.2 (nI (i + 2)).toNatClampNeg) (G.2.2.2.2.2 (nI (i + 3)).toNatClampNeg) ((fa, ld, ep, tm), L, S, C, W, T)).1) := Sum.inl.inj n1
  subst n4
  subst n2
  subst n3
  refine e_istore (pc := 994) d_lw_law_994 (by decide) ?_
  exact tailL (t := 996) htr d_lw_law_996 d_lw_law_997 d_lw_law_1000 d_lw_law_1002 d_lw_law_1007 d_lw_law_1009 d_lw_law_1012 d_lw_law_1013 d_lw_law_1014 d_lw_law_1015 d_lw_law_1017 d_lw_law_1018 d_lw_law_1019 d_lw_law_1024 (by decide) m1 m5 m6 m4.2.2.1 (kk _ _ _ _ _ m4 hP)
set_option maxHeartbeats 1000000 in
theorem lc_event {l : Launch} {G : q_G} (htr : l.stackTraces = false) {x : zX} {M : mR} {f : Nat → Int64} {i cc ss : Nat} {k5 k6 : Option Value} {Q : q_Q} (hs : LSt x M f) (hi : i + 5 ≤ G.2.2.2.2.1) (hG : G.2.2.2.2.1 < 2 ^ 31) (hep : z_ep (x_R x) + 1 < 100000) (kk : ∀ x' M' f' k5 k6, LSt x' M' f' → Eq1 x x' → q_Ev l G m_lw_law 10 191 cc ss 1503 (lvL i k5 k6) [] (zs_put (x_h x') (x_R x')) (x_N x') Q) : q_Ev l G m_lw_law 10 191 (cc + 16) (ss + 96) 1027 (lvL i k5 k6) [] (zs_put (x_h x) (x_R x)) (x_N x) Q := by
  obtain ⟨⟨fa, ld, ep, tm⟩, L, S, C, W, T⟩ := M
  refine e_aload_n (pc := 1027) d_lw_law_1027 rfl ?_
  refine e_aload_n (pc := 1028) d_lw_law_1028 rfl ?_
  refine e_iload (pc := 1029) d_lw_law_1029 rfl ?_
  refine e_iconst (pc := 1031) d_lw_law_1031 (v := nI 1) rfl ?_
  refine e_iaddN (pc := 1032) d_lw_law_1032 ?_
  refine e_sld (pc := 1033) d_lw_law_1033 (vp_inN (by omega) hG) ?_
  refine e_aload_n (pc := 1034) d_lw_law_1034 rfl ?_
  have hA : Ag [IAE, ISE, NSE] (z_event (G.2.2.2.2.2 (nI (i + 1)).toNatClampNeg) x) (m_event (G.2.2.2.2.2 (nI (i + 1)).toNatClampNeg) ((fa, ld, ep, tm), L, S, C, W, T)) := eq_event hs.1
  have hE : Ex x (z_event (G.2.2.2.2.2 (nI (i + 1)).toNatClampNeg) x).2 := Ex_event (G.2.2.2.2.2 (nI (i + 1)).toNatClampNeg) x
  have hP : Eq1 x (z_event (G.2.2.2.2.2 (nI (i + 1)).toNatClampNeg) x).2 := Ep_event (G.2.2.2.2.2 (nI (i + 1)).toNatClampNeg) x
  have h66 : x_h (z_event (G.2.2.2.2.2 (nI (i + 1)).toNatClampNeg) x).2 66 = some (q_al 1 f) := (hE.2 66 hs.2.2.2).trans hs.2.2.1
  refine e_callSX (pc := 1035) (cc2 := cc) (ss2 := ss) (As := [.ref 1, .int (G.2.2.2.2.2 (nI (i + 1)).toNatClampNeg), .ref 66]) (st := []) d_lw_law_1035 rfl cx_lw_131 (c_lw_event htr (r := z_event (G.2.2.2.2.2 (nI (i + 1)).toNatClampNeg) x) rfl (c_zs_event htr hs.1.1.1) h66 (Ag_Rs hA)) rfl (by decide) (Nat.le_of_ble_eq_true rfl) (Nat.le_of_eq (Nat.add_comm _ _)) (Nat.le_of_eq (Nat.add_comm _ _)) (by decide) (fun E h' N' hq => ?_) (fun rr h' N' hq => ?_)
  · obtain ⟨-, ⟨v, f9, -, z, -⟩ | ⟨c, E2, -, -, z, -⟩⟩ := hq
    · exact nomatch z
    · exact nomatch z
  obtain ⟨k, g, f2, m1, m2, m3, m4, m5, m6⟩ := MID hs hE hA (by decide) (by decide) hq
  have m7 : rr = some (.int (nI k)) := Sum.inl.inj m2
  subst m7
  subst m3
  refine e_istore (pc := 1038) d_lw_law_1038 (by decide) ?_
  refine e_aload_n (pc := 1040) d_lw_law_1040 rfl ?_
  refine e_aload_n (pc := 1041) d_lw_law_1041 rfl ?_
  refine e_iload (pc := 1042) d_lw_law_1042 rfl ?_
  refine e_iconst (pc := 1044) d_lw_law_1044 (v := nI 1) rfl ?_
  refine e_iaddN (pc := 1045) d_lw_law_1045 ?_
  refine e_sld (pc := 1046) d_lw_law_1046 (vp_inN (by omega) hG) ?_
  refine e_callV (pc := 1047) (cc2 := cc) (ss2 := ss) (As := [.int (G.2.2.2.2.2 (nI (i + 1)).toNatClampNeg)]) (st := []) (b := 42) d_lw_law_1047 rfl cv_lw_133 rfl rfl (c_md_event htr (n := 72) (Nat.le_refl _) (IV_m hs.1.1)) rfl (by decide) (Nat.le_of_ble_eq_true rfl) (Nat.le_of_eq (Nat.zero_add _)) (Nat.le_of_eq (Nat.zero_add _)) (by decide) (fun E h' N2 hq2 => (by exact nomatch hq2.1)) (fun rr h' N2 hq2 => ?_)
  obtain ⟨n1, n2, n3⟩ := hq2
  have n4 : rr = some (.int (m_event (G.2.2.2.2.2 (nI (i + 1)).toNatClampNeg) ((fa, ld, ep, tm), L, S, C, W, T)).1) := Sum.inl.inj n1
  subst n4
  subst n2
  subst n3
  refine e_istore (pc := 1050) d_lw_law_1050 (by decide) ?_
  exact tailL (t := 1052) htr d_lw_law_1052 d_lw_law_1053 d_lw_law_1056 d_lw_law_1058 d_lw_law_1063 d_lw_law_1065 d_lw_law_1068 d_lw_law_1069 d_lw_law_1070 d_lw_law_1071 d_lw_law_1073 d_lw_law_1074 d_lw_law_1075 d_lw_law_1080 (by decide) m1 m5 m6 m4.2.2.1 (kk _ _ _ _ _ m4 hP)
set_option maxHeartbeats 1000000 in
theorem lc_crash {l : Launch} {G : q_G} (htr : l.stackTraces = false) {x : zX} {M : mR} {f : Nat → Int64} {i cc ss : Nat} {k5 k6 : Option Value} {Q : q_Q} (hs : LSt x M f) (hi : i + 5 ≤ G.2.2.2.2.1) (hG : G.2.2.2.2.1 < 2 ^ 31) (hep : z_ep (x_R x) + 1 < 100000) (kk : ∀ x' M' f' k5 k6, LSt x' M' f' → Eq1 x x' → q_Ev l G m_lw_law 10 191 cc ss 1503 (lvL i k5 k6) [] (zs_put (x_h x') (x_R x')) (x_N x') Q) : q_Ev l G m_lw_law 10 191 (cc + 16) (ss + 96) 1083 (lvL i k5 k6) [] (zs_put (x_h x) (x_R x)) (x_N x) Q := by
  obtain ⟨⟨fa, ld, ep, tm⟩, L, S, C, W, T⟩ := M
  refine e_aload_n (pc := 1083) d_lw_law_1083 rfl ?_
  refine e_aload_n (pc := 1084) d_lw_law_1084 rfl ?_
  refine e_iload (pc := 1085) d_lw_law_1085 rfl ?_
  refine e_iconst (pc := 1087) d_lw_law_1087 (v := nI 1) rfl ?_
  refine e_iaddN (pc := 1088) d_lw_law_1088 ?_
  refine e_sld (pc := 1089) d_lw_law_1089 (vp_inN (by omega) hG) ?_
  refine e_aload_n (pc := 1090) d_lw_law_1090 rfl ?_
  have hA : Ag [IAE, ISE] (z_crash (G.2.2.2.2.2 (nI (i + 1)).toNatClampNeg) x) (m_crash (G.2.2.2.2.2 (nI (i + 1)).toNatClampNeg) ((fa, ld, ep, tm), L, S, C, W, T)) := eq_crash hs.1
  have hE : Ex x (z_crash (G.2.2.2.2.2 (nI (i + 1)).toNatClampNeg) x).2 := Ex_crash (G.2.2.2.2.2 (nI (i + 1)).toNatClampNeg) x
  have hP : Eq1 x (z_crash (G.2.2.2.2.2 (nI (i + 1)).toNatClampNeg) x).2 := Ep_crash (G.2.2.2.2.2 (nI (i + 1)).toNatClampNeg) x
  have h66 : x_h (z_crash (G.2.2.2.2.2 (nI (i + 1)).toNatClampNeg) x).2 66 = some (q_al 1 f) := (hE.2 66 hs.2.2.2).trans hs.2.2.1
  refine e_callSX (pc := 1091) (cc2 := cc) (ss2 := ss) (As := [.ref 1, .int (G.2.2.2.2.2 (nI (i + 1)).toNatClampNeg), .ref 66]) (st := []) d_lw_law_1091 rfl cx_lw_134 (c_lw_crash htr (r := z_crash (G.2.2.2.2.2 (nI (i + 1)).toNatClampNeg) x) rfl (c_zs_crash htr hs.1.1.1) h66 (Ag_Rs hA)) rfl (by decide) (Nat.le_of_ble_eq_true rfl) (Nat.le_of_eq (Nat.add_comm _ _)) (Nat.le_of_eq (Nat.add_comm _ _)) (by decide) (fun E h' N' hq => ?_) (fun rr h' N' hq => ?_)
  · obtain ⟨-, ⟨v, f9, -, z, -⟩ | ⟨c, E2, -, -, z, -⟩⟩ := hq
    · exact nomatch z
    · exact nomatch z
  obtain ⟨k, g, f2, m1, m2, m3, m4, m5, m6⟩ := MID hs hE hA (by decide) (by decide) hq
  have m7 : rr = some (.int (nI k)) := Sum.inl.inj m2
  subst m7
  subst m3
  refine e_istore (pc := 1094) d_lw_law_1094 (by decide) ?_
  refine e_aload_n (pc := 1096) d_lw_law_1096 rfl ?_
  refine e_aload_n (pc := 1097) d_lw_law_1097 rfl ?_
  refine e_iload (pc := 1098) d_lw_law_1098 rfl ?_
  refine e_iconst (pc := 1100) d_lw_law_1100 (v := nI 1) rfl ?_
  refine e_iaddN (pc := 1101) d_lw_law_1101 ?_
  refine e_sld (pc := 1102) d_lw_law_1102 (vp_inN (by omega) hG) ?_
  refine e_callV (pc := 1103) (cc2 := cc) (ss2 := ss) (As := [.int (G.2.2.2.2.2 (nI (i + 1)).toNatClampNeg)]) (st := []) (b := 42) d_lw_law_1103 rfl cv_lw_136 rfl rfl (c_md_crash htr (n := 72) (Nat.le_refl _) (IV_m hs.1.1)) rfl (by decide) (Nat.le_of_ble_eq_true rfl) (Nat.le_of_eq (Nat.zero_add _)) (Nat.le_of_eq (Nat.zero_add _)) (by decide) (fun E h' N2 hq2 => (by exact nomatch hq2.1)) (fun rr h' N2 hq2 => ?_)
  obtain ⟨n1, n2, n3⟩ := hq2
  have n4 : rr = some (.int (m_crash (G.2.2.2.2.2 (nI (i + 1)).toNatClampNeg) ((fa, ld, ep, tm), L, S, C, W, T)).1) := Sum.inl.inj n1
  subst n4
  subst n2
  subst n3
  refine e_istore (pc := 1106) d_lw_law_1106 (by decide) ?_
  exact tailL (t := 1108) htr d_lw_law_1108 d_lw_law_1109 d_lw_law_1112 d_lw_law_1114 d_lw_law_1119 d_lw_law_1121 d_lw_law_1124 d_lw_law_1125 d_lw_law_1126 d_lw_law_1127 d_lw_law_1129 d_lw_law_1130 d_lw_law_1131 d_lw_law_1136 (by decide) m1 m5 m6 m4.2.2.1 (kk _ _ _ _ _ m4 hP)
set_option maxHeartbeats 1000000 in
theorem lc_restart {l : Launch} {G : q_G} (htr : l.stackTraces = false) {x : zX} {M : mR} {f : Nat → Int64} {i cc ss : Nat} {k5 k6 : Option Value} {Q : q_Q} (hs : LSt x M f) (hi : i + 5 ≤ G.2.2.2.2.1) (hG : G.2.2.2.2.1 < 2 ^ 31) (hep : z_ep (x_R x) + 1 < 100000) (kk : ∀ x' M' f' k5 k6, LSt x' M' f' → Eq1 x x' → q_Ev l G m_lw_law 10 191 cc ss 1503 (lvL i k5 k6) [] (zs_put (x_h x') (x_R x')) (x_N x') Q) : q_Ev l G m_lw_law 10 191 (cc + 16) (ss + 96) 1139 (lvL i k5 k6) [] (zs_put (x_h x) (x_R x)) (x_N x) Q := by
  obtain ⟨⟨fa, ld, ep, tm⟩, L, S, C, W, T⟩ := M
  refine e_aload_n (pc := 1139) d_lw_law_1139 rfl ?_
  refine e_aload_n (pc := 1140) d_lw_law_1140 rfl ?_
  refine e_iload (pc := 1141) d_lw_law_1141 rfl ?_
  refine e_iconst (pc := 1143) d_lw_law_1143 (v := nI 1) rfl ?_
  refine e_iaddN (pc := 1144) d_lw_law_1144 ?_
  refine e_sld (pc := 1145) d_lw_law_1145 (vp_inN (by omega) hG) ?_
  refine e_aload_n (pc := 1146) d_lw_law_1146 rfl ?_
  have hA : Ag [IAE, ISE] (z_restart (G.2.2.2.2.2 (nI (i + 1)).toNatClampNeg) x) (m_restart (G.2.2.2.2.2 (nI (i + 1)).toNatClampNeg) ((fa, ld, ep, tm), L, S, C, W, T)) := eq_restart hs.1
  have hE : Ex x (z_restart (G.2.2.2.2.2 (nI (i + 1)).toNatClampNeg) x).2 := Ex_restart (G.2.2.2.2.2 (nI (i + 1)).toNatClampNeg) x
  have hP : Eq1 x (z_restart (G.2.2.2.2.2 (nI (i + 1)).toNatClampNeg) x).2 := Ep_restart (G.2.2.2.2.2 (nI (i + 1)).toNatClampNeg) x
  have h66 : x_h (z_restart (G.2.2.2.2.2 (nI (i + 1)).toNatClampNeg) x).2 66 = some (q_al 1 f) := (hE.2 66 hs.2.2.2).trans hs.2.2.1
  refine e_callSX (pc := 1147) (cc2 := cc) (ss2 := ss) (As := [.ref 1, .int (G.2.2.2.2.2 (nI (i + 1)).toNatClampNeg), .ref 66]) (st := []) d_lw_law_1147 rfl cx_lw_137 (c_lw_restart htr (r := z_restart (G.2.2.2.2.2 (nI (i + 1)).toNatClampNeg) x) rfl (c_zs_restart htr hs.1.1.1 (cl_rs hs.1)) h66 (Ag_Rs hA)) rfl (by decide) (Nat.le_of_ble_eq_true rfl) (Nat.le_of_eq (Nat.add_comm _ _)) (Nat.le_of_eq (Nat.add_comm _ _)) (by decide) (fun E h' N' hq => ?_) (fun rr h' N' hq => ?_)
  · obtain ⟨-, ⟨v, f9, -, z, -⟩ | ⟨c, E2, -, -, z, -⟩⟩ := hq
    · exact nomatch z
    · exact nomatch z
  obtain ⟨k, g, f2, m1, m2, m3, m4, m5, m6⟩ := MID hs hE hA (by decide) (by decide) hq
  have m7 : rr = some (.int (nI k)) := Sum.inl.inj m2
  subst m7
  subst m3
  refine e_istore (pc := 1150) d_lw_law_1150 (by decide) ?_
  refine e_aload_n (pc := 1152) d_lw_law_1152 rfl ?_
  refine e_aload_n (pc := 1153) d_lw_law_1153 rfl ?_
  refine e_iload (pc := 1154) d_lw_law_1154 rfl ?_
  refine e_iconst (pc := 1156) d_lw_law_1156 (v := nI 1) rfl ?_
  refine e_iaddN (pc := 1157) d_lw_law_1157 ?_
  refine e_sld (pc := 1158) d_lw_law_1158 (vp_inN (by omega) hG) ?_
  refine e_callV (pc := 1159) (cc2 := cc) (ss2 := ss) (As := [.int (G.2.2.2.2.2 (nI (i + 1)).toNatClampNeg)]) (st := []) (b := 42) d_lw_law_1159 rfl cv_lw_139 rfl rfl (c_md_restart htr (n := 72) (Nat.le_refl _) (IV_m hs.1.1)) rfl (by decide) (Nat.le_of_ble_eq_true rfl) (Nat.le_of_eq (Nat.zero_add _)) (Nat.le_of_eq (Nat.zero_add _)) (by decide) (fun E h' N2 hq2 => (by exact nomatch hq2.1)) (fun rr h' N2 hq2 => ?_)
  obtain ⟨n1, n2, n3⟩ := hq2
  have n4 : rr = some (.int (m_restart (G.2.2.2.2.2 (nI (i + 1)).toNatClampNeg) ((fa, ld, ep, tm), L, S, C, W, T)).1) := Sum.inl.inj n1
  subst n4
  subst n2
  subst n3
  refine e_istore (pc := 1162) d_lw_law_1162 (by decide) ?_
  exact tailL (t := 1164) htr d_lw_law_1164 d_lw_law_1165 d_lw_law_1168 d_lw_law_1170 d_lw_law_1175 d_lw_law_1177 d_lw_law_1180 d_lw_law_1181 d_lw_law_1182 d_lw_law_1183 d_lw_law_1185 d_lw_law_1186 d_lw_law_1187 d_lw_law_1192 (by decide) m1 m5 m6 m4.2.2.1 (kk _ _ _ _ _ m4 hP)
set_option maxHeartbeats 1000000 in
theorem lc_alone {l : Launch} {G : q_G} (htr : l.stackTraces = false) {x : zX} {M : mR} {f : Nat → Int64} {i cc ss : Nat} {k5 k6 : Option Value} {Q : q_Q} (hs : LSt x M f) (hi : i + 5 ≤ G.2.2.2.2.1) (hG : G.2.2.2.2.1 < 2 ^ 31) (hep : z_ep (x_R x) + 1 < 100000) (kk : ∀ x' M' f' k5 k6, LSt x' M' f' → Eq1 x x' → q_Ev l G m_lw_law 10 191 cc ss 1503 (lvL i k5 k6) [] (zs_put (x_h x') (x_R x')) (x_N x') Q) : q_Ev l G m_lw_law 10 191 (cc + 16) (ss + 96) 1195 (lvL i k5 k6) [] (zs_put (x_h x) (x_R x)) (x_N x) Q := by
  obtain ⟨⟨fa, ld, ep, tm⟩, L, S, C, W, T⟩ := M
  refine e_aload_n (pc := 1195) d_lw_law_1195 rfl ?_
  refine e_aload_n (pc := 1196) d_lw_law_1196 rfl ?_
  refine e_iload (pc := 1197) d_lw_law_1197 rfl ?_
  refine e_iconst (pc := 1199) d_lw_law_1199 (v := nI 1) rfl ?_
  refine e_iaddN (pc := 1200) d_lw_law_1200 ?_
  refine e_sld (pc := 1201) d_lw_law_1201 (vp_inN (by omega) hG) ?_
  refine e_aload_n (pc := 1202) d_lw_law_1202 rfl ?_
  refine e_iload (pc := 1203) d_lw_law_1203 rfl ?_
  refine e_iconst (pc := 1205) d_lw_law_1205 (v := nI 2) rfl ?_
  refine e_iaddN (pc := 1206) d_lw_law_1206 ?_
  refine e_sld (pc := 1207) d_lw_law_1207 (vp_inN (by omega) hG) ?_
  refine e_ne0 (pc := 1208) (A := 1215) (B := 1216) d_lw_law_1208 (by decide) d_lw_law_1211 d_lw_law_1212 (by decide) d_lw_law_1215 rfl ?_
  refine e_aload_n (pc := 1216) d_lw_law_1216 rfl ?_
  have hA : Ag [IAE] (z_alone (G.2.2.2.2.2 (nI (i + 1)).toNatClampNeg) (decide (¬ G.2.2.2.2.2 (nI (i + 2)).toNatClampNeg = 0)) x) (m_alone (G.2.2.2.2.2 (nI (i + 1)).toNatClampNeg) (decide (¬ G.2.2.2.2.2 (nI (i + 2)).toNatClampNeg = 0)) ((fa, ld, ep, tm), L, S, C, W, T)) := eq_alone hs.1
  have hE : Ex x (z_alone (G.2.2.2.2.2 (nI (i + 1)).toNatClampNeg) (decide (¬ G.2.2.2.2.2 (nI (i + 2)).toNatClampNeg = 0)) x).2 := Ex_alone (G.2.2.2.2.2 (nI (i + 1)).toNatClampNeg) (decide (¬ G.2.2.2.2.2 (nI (i + 2)).toNatClampNeg = 0)) x
  have hP : Eq1 x (z_alone (G.2.2.2.2.2 (nI (i + 1)).toNatClampNeg) (decide (¬ G.2.2.2.2.2 (nI (i + 2)).toNatClampNeg = 0)) x).2 := Ep_alone (G.2.2.2.2.2 (nI (i + 1)).toNatClampNeg) (decide (¬ G.2.2.2.2.2 (nI (i + 2)).toNatClampNeg = 0)) x
  have h66 : x_h (z_alone (G.2.2.2.2.2 (nI (i + 1)).toNatClampNeg) (decide (¬ G.2.2.2.2.2 (nI (i + 2)).toNatClampNeg = 0)) x).2 66 = some (q_al 1 f) := (hE.2 66 hs.2.2.2).trans hs.2.2.1
  refine e_callSX (pc := 1217) (cc2 := cc) (ss2 := ss) (As := [.ref 1, .int (G.2.2.2.2.2 (nI (i + 1)).toNatClampNeg), .int (bI (decide (¬ G.2.2.2.2.2 (nI (i + 2)).toNatClampNeg = 0))), .ref 66]) (st := []) d_lw_law_1217 rfl cx_lw_140 (c_lw_alone htr (r := z_alone (G.2.2.2.2.2 (nI (i + 1)).toNatClampNeg) (decide (¬ G.2.2.2.2.2 (nI (i + 2)).toNatClampNeg = 0)) x) rfl (c_zs_alone htr hs.1.1.1 (cl_al _ hs.1)) h66 (Ag_Rs hA)) rfl (by decide) (Nat.le_of_ble_eq_true rfl) (Nat.le_of_eq (Nat.add_comm _ _)) (Nat.le_of_eq (Nat.add_comm _ _)) (by decide) (fun E h' N' hq => ?_) (fun rr h' N' hq => ?_)
  · obtain ⟨-, ⟨v, f9, -, z, -⟩ | ⟨c, E2, -, -, z, -⟩⟩ := hq
    · exact nomatch z
    · exact nomatch z
  obtain ⟨k, g, f2, m1, m2, m3, m4, m5, m6⟩ := MID hs hE hA (by decide) (by decide) hq
  have m7 : rr = some (.int (nI k)) := Sum.inl.inj m2
  subst m7
  subst m3
  refine e_istore (pc := 1220) d_lw_law_1220 (by decide) ?_
  refine e_aload_n (pc := 1222) d_lw_law_1222 rfl ?_
  refine e_aload_n (pc := 1223) d_lw_law_1223 rfl ?_
  refine e_iload (pc := 1224) d_lw_law_1224 rfl ?_
  refine e_iconst (pc := 1226) d_lw_law_1226 (v := nI 1) rfl ?_
  refine e_iaddN (pc := 1227) d_lw_law_1227 ?_
  refine e_sld (pc := 1228) d_lw_law_1228 (vp_inN (by omega) hG) ?_
  refine e_aload_n (pc := 1229) d_lw_law_1229 rfl ?_
  refine e_iload (pc := 1230) d_lw_law_1230 rfl ?_
  refine e_iconst (pc := 1232) d_lw_law_1232 (v := nI 2) rfl ?_
  refine e_iaddN (pc := 1233) d_lw_law_1233 ?_
  refine e_sld (pc := 1234) d_lw_law_1234 (vp_inN (by omega) hG) ?_
  refine e_ne0 (pc := 1235) (A := 1242) (B := 1243) d_lw_law_1235 (by decide) d_lw_law_1238 d_lw_law_1239 (by decide) d_lw_law_1242 rfl ?_
  refine e_callV (pc := 1243) (cc2 := cc) (ss2 := ss) (As := [.int (G.2.2.2.2.2 (nI (i + 1)).toNatClampNeg), .int (bI (decide (¬ G.2.2.2.2.2 (nI (i + 2)).toNatClampNeg = 0)))]) (st := []) (b := 42) d_lw_law_1243 rfl cv_lw_143 rfl rfl (c_md_alone htr (n := 72) (Nat.le_refl _) (IV_m hs.1.1)) rfl (by decide) (Nat.le_of_ble_eq_true rfl) (Nat.le_of_eq (Nat.zero_add _)) (Nat.le_of_eq (Nat.zero_add _)) (by decide) (fun E h' N2 hq2 => (by exact nomatch hq2.1)) (fun rr h' N2 hq2 => ?_)
  obtain ⟨n1, n2, n3⟩ := hq2
  have n4 : rr = some (.int (m_alone (G.2.2.2.2.2 (nI (i + 1)).toNatClampNeg) (decide (¬ G.2.2.2.2.2 (nI (i + 2)).toNatClampNeg = 0)) ((fa, ld, ep, tm), L, S, C, W, T)).1) := Sum.inl.inj n1
  subst n4
  subst n2
  subst n3
  refine e_istore (pc := 1246) d_lw_law_1246 (by decide) ?_
  exact tailL (t := 1248) htr d_lw_law_1248 d_lw_law_1249 d_lw_law_1252 d_lw_law_1254 d_lw_law_1259 d_lw_law_1261 d_lw_law_1264 d_lw_law_1265 d_lw_law_1266 d_lw_law_1267 d_lw_law_1269 d_lw_law_1270 d_lw_law_1271 d_lw_law_1276 (by decide) m1 m5 m6 m4.2.2.1 (kk _ _ _ _ _ m4 hP)
set_option maxHeartbeats 1000000 in
theorem lc_elect {l : Launch} {G : q_G} (htr : l.stackTraces = false) {x : zX} {M : mR} {f : Nat → Int64} {i cc ss : Nat} {k5 k6 : Option Value} {Q : q_Q} (hs : LSt x M f) (hi : i + 5 ≤ G.2.2.2.2.1) (hG : G.2.2.2.2.1 < 2 ^ 31) (hep : z_ep (x_R x) + 1 < 100000) (kk : ∀ x' M' f' k5 k6, LSt x' M' f' → Eq1 x x' → q_Ev l G m_lw_law 10 191 cc ss 1503 (lvL i k5 k6) [] (zs_put (x_h x') (x_R x')) (x_N x') Q) : q_Ev l G m_lw_law 10 191 (cc + 16) (ss + 96) 1279 (lvL i k5 k6) [] (zs_put (x_h x) (x_R x)) (x_N x) Q := by
  obtain ⟨⟨fa, ld, ep, tm⟩, L, S, C, W, T⟩ := M
  refine e_aload_n (pc := 1279) d_lw_law_1279 rfl ?_
  refine e_aload_n (pc := 1280) d_lw_law_1280 rfl ?_
  have hA : Ag [ISE] (z_elect  x) (m_elect  ((fa, ld, ep, tm), L, S, C, W, T)) := eq_elect hs.1 hep
  have hE : Ex x (z_elect  x).2 := Ex_elect  x
  have hP : Eq1 x (z_elect  x).2 := Ep_elect  x
  have h66 : x_h (z_elect  x).2 66 = some (q_al 1 f) := (hE.2 66 hs.2.2.2).trans hs.2.2.1
  refine e_callSX (pc := 1281) (cc2 := cc) (ss2 := ss) (As := [.ref 1, .ref 66]) (st := []) d_lw_law_1281 rfl cx_lw_144 (c_lw_elect htr (r := z_elect  x) rfl (c_zs_elect htr hs.1.1.1 hep (cl_el hs.1)) h66 (Ag_Rs hA)) rfl (by decide) (Nat.le_of_ble_eq_true rfl) (Nat.le_of_eq (Nat.add_comm _ _)) (Nat.le_of_eq (Nat.add_comm _ _)) (by decide) (fun E h' N' hq => ?_) (fun rr h' N' hq => ?_)
  · obtain ⟨-, ⟨v, f9, -, z, -⟩ | ⟨c, E2, -, -, z, -⟩⟩ := hq
    · exact nomatch z
    · exact nomatch z
  obtain ⟨k, g, f2, m1, m2, m3, m4, m5, m6⟩ := MID hs hE hA (by decide) (by decide) hq
  have m7 : rr = some (.int (nI k)) := Sum.inl.inj m2
  subst m7
  subst m3
  refine e_istore (pc := 1284) d_lw_law_1284 (by decide) ?_
  refine e_aload_n (pc := 1286) d_lw_law_1286 rfl ?_
  refine e_callV (pc := 1287) (cc2 := cc) (ss2 := ss) (As := []) (st := []) (b := 42) d_lw_law_1287 rfl cv_lw_147 rfl rfl (c_md_elect htr (ag_M hs.1) (n := 72) (Nat.le_refl _) (IV_m hs.1.1)) rfl (by decide) (Nat.le_of_ble_eq_true rfl) (Nat.le_of_eq (Nat.zero_add _)) (Nat.le_of_eq (Nat.zero_add _)) (by decide) (fun E h' N2 hq2 => (by exact nomatch hq2.1)) (fun rr h' N2 hq2 => ?_)
  obtain ⟨n1, n2, n3⟩ := hq2
  have n4 : rr = some (.int (m_elect  ((fa, ld, ep, tm), L, S, C, W, T)).1) := Sum.inl.inj n1
  subst n4
  subst n2
  subst n3
  refine e_istore (pc := 1290) d_lw_law_1290 (by decide) ?_
  exact tailL (t := 1292) htr d_lw_law_1292 d_lw_law_1293 d_lw_law_1296 d_lw_law_1298 d_lw_law_1303 d_lw_law_1305 d_lw_law_1308 d_lw_law_1309 d_lw_law_1310 d_lw_law_1311 d_lw_law_1313 d_lw_law_1314 d_lw_law_1315 d_lw_law_1320 (by decide) m1 m5 m6 m4.2.2.1 (kk _ _ _ _ _ m4 hP)
set_option maxHeartbeats 1000000 in
theorem lc_tick {l : Launch} {G : q_G} (htr : l.stackTraces = false) {x : zX} {M : mR} {f : Nat → Int64} {i cc ss : Nat} {k5 k6 : Option Value} {Q : q_Q} (hs : LSt x M f) (hi : i + 5 ≤ G.2.2.2.2.1) (hG : G.2.2.2.2.1 < 2 ^ 31) (hep : z_ep (x_R x) + 1 < 100000) (kk : ∀ x' M' f' k5 k6, LSt x' M' f' → Eq1 x x' → q_Ev l G m_lw_law 10 191 cc ss 1503 (lvL i k5 k6) [] (zs_put (x_h x') (x_R x')) (x_N x') Q) : q_Ev l G m_lw_law 10 191 (cc + 16) (ss + 96) 1323 (lvL i k5 k6) [] (zs_put (x_h x) (x_R x)) (x_N x) Q := by
  obtain ⟨⟨fa, ld, ep, tm⟩, L, S, C, W, T⟩ := M
  refine e_aload_n (pc := 1323) d_lw_law_1323 rfl ?_
  refine e_aload_n (pc := 1324) d_lw_law_1324 rfl ?_
  refine e_iload (pc := 1325) d_lw_law_1325 rfl ?_
  refine e_iconst (pc := 1327) d_lw_law_1327 (v := nI 1) rfl ?_
  refine e_iaddN (pc := 1328) d_lw_law_1328 ?_
  refine e_sld (pc := 1329) d_lw_law_1329 (vp_inN (by omega) hG) ?_
  refine e_aload_n (pc := 1330) d_lw_law_1330 rfl ?_
  have hA : Ag [IAE] (z_tick (G.2.2.2.2.2 (nI (i + 1)).toNatClampNeg) x) (m_tick (G.2.2.2.2.2 (nI (i + 1)).toNatClampNeg) ((fa, ld, ep, tm), L, S, C, W, T)) := eq_tick hs.1
  have hE : Ex x (z_tick (G.2.2.2.2.2 (nI (i + 1)).toNatClampNeg) x).2 := Ex_tick (G.2.2.2.2.2 (nI (i + 1)).toNatClampNeg) x
  have hP : Eq1 x (z_tick (G.2.2.2.2.2 (nI (i + 1)).toNatClampNeg) x).2 := Ep_tick (G.2.2.2.2.2 (nI (i + 1)).toNatClampNeg) x
  have h66 : x_h (z_tick (G.2.2.2.2.2 (nI (i + 1)).toNatClampNeg) x).2 66 = some (q_al 1 f) := (hE.2 66 hs.2.2.2).trans hs.2.2.1
  refine e_callSX (pc := 1331) (cc2 := cc) (ss2 := ss) (As := [.ref 1, .int (G.2.2.2.2.2 (nI (i + 1)).toNatClampNeg), .ref 66]) (st := []) d_lw_law_1331 rfl cx_lw_148 (c_lw_tick htr (r := z_tick (G.2.2.2.2.2 (nI (i + 1)).toNatClampNeg) x) rfl (c_zs_tick htr hs.1.1.1 (cl_tick _ hs.1)) h66 (Ag_Rs hA)) rfl (by decide) (Nat.le_of_ble_eq_true rfl) (Nat.le_of_eq (Nat.add_comm _ _)) (Nat.le_of_eq (Nat.add_comm _ _)) (by decide) (fun E h' N' hq => ?_) (fun rr h' N' hq => ?_)
  · obtain ⟨-, ⟨v, f9, -, z, -⟩ | ⟨c, E2, -, -, z, -⟩⟩ := hq
    · exact nomatch z
    · exact nomatch z
  obtain ⟨k, g, f2, m1, m2, m3, m4, m5, m6⟩ := MID hs hE hA (by decide) (by decide) hq
  have m7 : rr = some (.int (nI k)) := Sum.inl.inj m2
  subst m7
  subst m3
  refine e_istore (pc := 1334) d_lw_law_1334 (by decide) ?_
  refine e_aload_n (pc := 1336) d_lw_law_1336 rfl ?_
  refine e_aload_n (pc := 1337) d_lw_law_1337 rfl ?_
  refine e_iload (pc := 1338) d_lw_law_1338 rfl ?_
  refine e_iconst (pc := 1340) d_lw_law_1340 (v := nI 1) rfl ?_
  refine e_iaddN (pc := 1341) d_lw_law_1341 ?_
  refine e_sld (pc := 1342) d_lw_law_1342 (vp_inN (by omega) hG) ?_
  refine e_callV (pc := 1343) (cc2 := cc) (ss2 := ss) (As := [.int (G.2.2.2.2.2 (nI (i + 1)).toNatClampNeg)]) (st := []) (b := 42) d_lw_law_1343 rfl cv_lw_150 rfl rfl (c_md_tick htr (n := 72) (Nat.le_refl _) (IV_m hs.1.1)) rfl (by decide) (Nat.le_of_ble_eq_true rfl) (Nat.le_of_eq (Nat.zero_add _)) (Nat.le_of_eq (Nat.zero_add _)) (by decide) (fun E h' N2 hq2 => (by exact nomatch hq2.1)) (fun rr h' N2 hq2 => ?_)
  obtain ⟨n1, n2, n3⟩ := hq2
  have n4 : rr = some (.int (m_tick (G.2.2.2.2.2 (nI (i + 1)).toNatClampNeg) ((fa, ld, ep, tm), L, S, C, W, T)).1) := Sum.inl.inj n1
  subst n4
  subst n2
  subst n3
  refine e_istore (pc := 1346) d_lw_law_1346 (by decide) ?_
  exact tailL (t := 1348) htr d_lw_law_1348 d_lw_law_1349 d_lw_law_1352 d_lw_law_1354 d_lw_law_1359 d_lw_law_1361 d_lw_law_1364 d_lw_law_1365 d_lw_law_1366 d_lw_law_1367 d_lw_law_1369 d_lw_law_1370 d_lw_law_1371 d_lw_law_1376 (by decide) m1 m5 m6 m4.2.2.1 (kk _ _ _ _ _ m4 hP)
set_option maxHeartbeats 1000000 in
theorem lc_state {l : Launch} {G : q_G} (htr : l.stackTraces = false) {x : zX} {M : mR} {f : Nat → Int64} {i cc ss : Nat} {k5 k6 : Option Value} {Q : q_Q} (hs : LSt x M f) (hi : i + 5 ≤ G.2.2.2.2.1) (hG : G.2.2.2.2.1 < 2 ^ 31) (hep : z_ep (x_R x) + 1 < 100000) (kk : ∀ x' M' f' k5 k6, LSt x' M' f' → Eq1 x x' → q_Ev l G m_lw_law 10 191 cc ss 1503 (lvL i k5 k6) [] (zs_put (x_h x') (x_R x')) (x_N x') Q) : q_Ev l G m_lw_law 10 191 (cc + 16) (ss + 96) 1379 (lvL i k5 k6) [] (zs_put (x_h x) (x_R x)) (x_N x) Q := by
  obtain ⟨⟨fa, ld, ep, tm⟩, L, S, C, W, T⟩ := M
  refine e_aload_n (pc := 1379) d_lw_law_1379 rfl ?_
  refine e_aload_n (pc := 1380) d_lw_law_1380 rfl ?_
  refine e_iload (pc := 1381) d_lw_law_1381 rfl ?_
  refine e_iconst (pc := 1383) d_lw_law_1383 (v := nI 1) rfl ?_
  refine e_iaddN (pc := 1384) d_lw_law_1384 ?_
  refine e_sld (pc := 1385) d_lw_law_1385 (vp_inN (by omega) hG) ?_
  refine e_aload_n (pc := 1386) d_lw_law_1386 rfl ?_
  refine e_iload (pc := 1387) d_lw_law_1387 rfl ?_
  refine e_iconst (pc := 1389) d_lw_law_1389 (v := nI 2) rfl ?_
  refine e_iaddN (pc := 1390) d_lw_law_1390 ?_
  refine e_sld (pc := 1391) d_lw_law_1391 (vp_inN (by omega) hG) ?_
  refine e_aload_n (pc := 1392) d_lw_law_1392 rfl ?_
  have hA : Ag [IAE] (z_state (G.2.2.2.2.2 (nI (i + 1)).toNatClampNeg) (G.2.2.2.2.2 (nI (i + 2)).toNatClampNeg) x) (m_state (G.2.2.2.2.2 (nI (i + 1)).toNatClampNeg) (G.2.2.2.2.2 (nI (i + 2)).toNatClampNeg) ((fa, ld, ep, tm), L, S, C, W, T)) := eq_state hs.1
  have hE : Ex x (z_state (G.2.2.2.2.2 (nI (i + 1)).toNatClampNeg) (G.2.2.2.2.2 (nI (i + 2)).toNatClampNeg) x).2 := Ex_state (G.2.2.2.2.2 (nI (i + 1)).toNatClampNeg) (G.2.2.2.2.2 (nI (i + 2)).toNatClampNeg) x
  have hP : Eq1 x (z_state (G.2.2.2.2.2 (nI (i + 1)).toNatClampNeg) (G.2.2.2.2.2 (nI (i + 2)).toNatClampNeg) x).2 := Ep_state (G.2.2.2.2.2 (nI (i + 1)).toNatClampNeg) (G.2.2.2.2.2 (nI (i + 2)).toNatClampNeg) x
  have h66 : x_h (z_state (G.2.2.2.2.2 (nI (i + 1)).toNatClampNeg) (G.2.2.2.2.2 (nI (i + 2)).toNatClampNeg) x).2 66 = some (q_al 1 f) := (hE.2 66 hs.2.2.2).trans hs.2.2.1
  refine e_callSX (pc := 1393) (cc2 := cc) (ss2 := ss) (As := [.ref 1, .int (G.2.2.2.2.2 (nI (i + 1)).toNatClampNeg), .int (G.2.2.2.2.2 (nI (i + 2)).toNatClampNeg), .ref 66]) (st := []) d_lw_law_1393 rfl cx_lw_151 (c_lw_state htr (r := z_state (G.2.2.2.2.2 (nI (i + 1)).toNatClampNeg) (G.2.2.2.2.2 (nI (i + 2)).toNatClampNeg) x) rfl (c_zs_state htr hs.1.1.1) h66 (Ag_Rs hA)) rfl (by decide) (Nat.le_of_ble_eq_true rfl) (Nat.le_of_eq (Nat.add_comm _ _)) (Nat.le_of_eq (Nat.add_comm _ _)) (by decide) (fun E h' N' hq => ?_) (fun rr h' N' hq => ?_)
  · obtain ⟨-, ⟨v, f9, -, z, -⟩ | ⟨c, E2, -, -, z, -⟩⟩ := hq
    · exact nomatch z
    · exact nomatch z
  obtain ⟨k, g, f2, m1, m2, m3, m4, m5, m6⟩ := MID hs hE hA (by decide) (by decide) hq
  have m7 : rr = some (.int (nI k)) := Sum.inl.inj m2
  subst m7
  subst m3
  refine e_istore (pc := 1396) d_lw_law_1396 (by decide) ?_
  refine e_aload_n (pc := 1398) d_lw_law_1398 rfl ?_
  refine e_aload_n (pc := 1399) d_lw_law_1399 rfl ?_
  refine e_iload (pc := 1400) d_lw_law_1400 rfl ?_
  refine e_iconst (pc := 1402) d_lw_law_1402 (v := nI 1) rfl ?_
  refine e_iaddN (pc := 1403) d_lw_law_1403 ?_
  refine e_sld (pc := 1404) d_lw_law_1404 (vp_inN (by omega) hG) ?_
  refine e_aload_n (pc := 1405) d_lw_law_1405 rfl ?_
  refine e_iload (pc := 1406) d_lw_law_1406 rfl ?_
  refine e_iconst (pc := 1408) d_lw_law_1408 (v := nI 2) rfl ?_
  refine e_iaddN (pc := 1409) d_lw_law_1409 ?_
  refine e_sld (pc := 1410) d_lw_law_1410 (vp_inN (by omega) hG) ?_
  refine e_callV (pc := 1411) (cc2 := cc) (ss2 := ss) (As := [.int (G.2.2.2.2.2 (nI (i + 1)).toNatClampNeg), .int (G.2.2.2.2.2 (nI (i + 2)).toNatClampNeg)]) (st := []) (b := 42) d_lw_law_1411 rfl cv_lw_153 rfl rfl (c_md_state htr (n := 72) (Nat.le_refl _) (IV_m hs.1.1)) rfl (by decide) (Nat.le_of_ble_eq_true rfl) (Nat.le_of_eq (Nat.zero_add _)) (Nat.le_of_eq (Nat.zero_add _)) (by decide) (fun E h' N2 hq2 => (by exact nomatch hq2.1)) (fun rr h' N2 hq2 => ?_)
  obtain ⟨n1, n2, n3⟩ := hq2
  have n4 : rr = some (.int (m_state (G.2.2.2.2.2 (nI (i + 1)).toNatClampNeg) (G.2.2.2.2.2 (nI (i + 2)).toNatClampNeg) ((fa, ld, ep, tm), L, S, C, W, T)).1) := Sum.inl.inj n1
  subst n4
  subst n2
  subst n3
  refine e_istore (pc := 1414) d_lw_law_1414 (by decide) ?_
  exact tailL (t := 1416) htr d_lw_law_1416 d_lw_law_1417 d_lw_law_1420 d_lw_law_1422 d_lw_law_1427 d_lw_law_1429 d_lw_law_1432 d_lw_law_1433 d_lw_law_1434 d_lw_law_1435 d_lw_law_1437 d_lw_law_1438 d_lw_law_1439 d_lw_law_1444 (by decide) m1 m5 m6 m4.2.2.1 (kk _ _ _ _ _ m4 hP)
set_option maxHeartbeats 1000000 in
theorem lc_count {l : Launch} {G : q_G} (htr : l.stackTraces = false) {x : zX} {M : mR} {f : Nat → Int64} {i cc ss : Nat} {k5 k6 : Option Value} {Q : q_Q} (hs : LSt x M f) (hi : i + 5 ≤ G.2.2.2.2.1) (hG : G.2.2.2.2.1 < 2 ^ 31) (hep : z_ep (x_R x) + 1 < 100000) (kk : ∀ x' M' f' k5 k6, LSt x' M' f' → Eq1 x x' → q_Ev l G m_lw_law 10 191 cc ss 1503 (lvL i k5 k6) [] (zs_put (x_h x') (x_R x')) (x_N x') Q) : q_Ev l G m_lw_law 10 191 (cc + 16) (ss + 96) 1447 (lvL i k5 k6) [] (zs_put (x_h x) (x_R x)) (x_N x) Q := by
  obtain ⟨⟨fa, ld, ep, tm⟩, L, S, C, W, T⟩ := M
  refine e_aload_n (pc := 1447) d_lw_law_1447 rfl ?_
  refine e_aload_n (pc := 1448) d_lw_law_1448 rfl ?_
  refine e_iload (pc := 1449) d_lw_law_1449 rfl ?_
  refine e_iconst (pc := 1451) d_lw_law_1451 (v := nI 1) rfl ?_
  refine e_iaddN (pc := 1452) d_lw_law_1452 ?_
  refine e_sld (pc := 1453) d_lw_law_1453 (vp_inN (by omega) hG) ?_
  refine e_aload_n (pc := 1454) d_lw_law_1454 rfl ?_
  have hA : Ag [IAE] (z_count (G.2.2.2.2.2 (nI (i + 1)).toNatClampNeg) x) (m_count (G.2.2.2.2.2 (nI (i + 1)).toNatClampNeg) ((fa, ld, ep, tm), L, S, C, W, T)) := eq_count hs.1
  have hE : Ex x (z_count (G.2.2.2.2.2 (nI (i + 1)).toNatClampNeg) x).2 := Ex_count (G.2.2.2.2.2 (nI (i + 1)).toNatClampNeg) x
  have hP : Eq1 x (z_count (G.2.2.2.2.2 (nI (i + 1)).toNatClampNeg) x).2 := Ep_count (G.2.2.2.2.2 (nI (i + 1)).toNatClampNeg) x
  have h66 : x_h (z_count (G.2.2.2.2.2 (nI (i + 1)).toNatClampNeg) x).2 66 = some (q_al 1 f) := (hE.2 66 hs.2.2.2).trans hs.2.2.1
  refine e_callSX (pc := 1455) (cc2 := cc) (ss2 := ss) (As := [.ref 1, .int (G.2.2.2.2.2 (nI (i + 1)).toNatClampNeg), .ref 66]) (st := []) d_lw_law_1455 rfl cx_lw_154 (c_lw_count htr (r := z_count (G.2.2.2.2.2 (nI (i + 1)).toNatClampNeg) x) rfl (c_zs_count htr hs.1.1.1) h66 (Ag_Rs hA)) rfl (by decide) (Nat.le_of_ble_eq_true rfl) (Nat.le_of_eq (Nat.add_comm _ _)) (Nat.le_of_eq (Nat.add_comm _ _)) (by decide) (fun E h' N' hq => ?_) (fun rr h' N' hq => ?_)
  · obtain ⟨-, ⟨v, f9, -, z, -⟩ | ⟨c, E2, -, -, z, -⟩⟩ := hq
    · exact nomatch z
    · exact nomatch z
  obtain ⟨k, g, f2, m1, m2, m3, m4, m5, m6⟩ := MID hs hE hA (by decide) (by decide) hq
  have m7 : rr = some (.int (nI k)) := Sum.inl.inj m2
  subst m7
  subst m3
  refine e_istore (pc := 1458) d_lw_law_1458 (by decide) ?_
  refine e_aload_n (pc := 1460) d_lw_law_1460 rfl ?_
  refine e_aload_n (pc := 1461) d_lw_law_1461 rfl ?_
  refine e_iload (pc := 1462) d_lw_law_1462 rfl ?_
  refine e_iconst (pc := 1464) d_lw_law_1464 (v := nI 1) rfl ?_
  refine e_iaddN (pc := 1465) d_lw_law_1465 ?_
  refine e_sld (pc := 1466) d_lw_law_1466 (vp_inN (by omega) hG) ?_
  refine e_callV (pc := 1467) (cc2 := cc) (ss2 := ss) (As := [.int (G.2.2.2.2.2 (nI (i + 1)).toNatClampNeg)]) (st := []) (b := 42) d_lw_law_1467 rfl cv_lw_156 rfl rfl (c_md_count htr (n := 72) (Nat.le_refl _) (IV_m hs.1.1)) rfl (by decide) (Nat.le_of_ble_eq_true rfl) (Nat.le_of_eq (Nat.zero_add _)) (Nat.le_of_eq (Nat.zero_add _)) (by decide) (fun E h' N2 hq2 => (by exact nomatch hq2.1)) (fun rr h' N2 hq2 => ?_)
  obtain ⟨n1, n2, n3⟩ := hq2
  have n4 : rr = some (.int (m_count (G.2.2.2.2.2 (nI (i + 1)).toNatClampNeg) ((fa, ld, ep, tm), L, S, C, W, T)).1) := Sum.inl.inj n1
  subst n4
  subst n2
  subst n3
  refine e_istore (pc := 1470) d_lw_law_1470 (by decide) ?_
  exact tailL (t := 1472) htr d_lw_law_1472 d_lw_law_1473 d_lw_law_1476 d_lw_law_1478 d_lw_law_1483 d_lw_law_1485 d_lw_law_1488 d_lw_law_1489 d_lw_law_1490 d_lw_law_1491 d_lw_law_1493 d_lw_law_1494 d_lw_law_1495 d_lw_law_1500 (by decide) m1 m5 m6 m4.2.2.1 (kk _ _ _ _ _ m4 hP)
