/-! THE LAW'S LOOP -/
theorem and31 (x : Int32) : ∃ n, n < 32 ∧ x &&& 31 = nI n := by
  refine ⟨(x &&& 31).toBitVec.toNat, ?_, ?_⟩
  · have h : (x &&& 31).toBitVec = x.toBitVec &&& 31#32 := Int32.toBitVec_and x 31
    rw [h, BitVec.toNat_and]
    have : x.toBitVec.toNat &&& (31#32).toNat ≤ (31#32).toNat := Nat.and_le_right
    have h2 : (31#32).toNat = 31 := rfl
    omega
  · apply Int32.toBitVec_inj.mp
    show (x &&& 31).toBitVec = BitVec.ofNat 32 (x &&& 31).toBitVec.toNat
    rw [BitVec.ofNat_toNat, BitVec.setWidth_eq]
theorem lt_neg {L i : Nat} (hL : L < 5) (hi : i < 2 ^ 31) : nI L - nI 5 < nI i := by
  rw [Int32.lt_iff_toInt_lt, nI_toInt hi]
  have h : (nI L - nI 5).toInt < 0 := by
    rcases (by omega : L = 0 ∨ L = 1 ∨ L = 2 ∨ L = 3 ∨ L = 4) with rfl | rfl | rfl | rfl | rfl <;> decide
  omega
def Ql : q_Q := fun o _ _ => o = .inl (some (.int 1))
set_option maxHeartbeats 2000000 in
theorem lw_loop {l : Launch} {G : q_G} (htr : l.stackTraces = false) (hL : G.2.2.2.2.1 ≤ 2560) : ∀ (g i : Nat) (x : zX) (M : mR) (f : Nat → Int64) (k5 k6 : Option Value), LSt x M f → z_ep (x_R x) + g < 100000 → G.2.2.2.2.1 < i + 5 * g + 5 → i ≤ 2565 → q_Ev l G m_lw_law 10 191 (16 * g) (96 * g) 23 (lvL i k5 k6) [] (zs_put (x_h x) (x_R x)) (x_N x) Ql := by
  intro g
  induction g with
  | zero =>
    intro i x M f k5 k6 hs he hg hi5
    refine e_iload (pc := 23) d_lw_law_23 rfl ?_
    refine e_aload_n (pc := 25) d_lw_law_25 rfl ?_
    refine e_slen (pc := 26) d_lw_law_26 ?_
    refine e_iconst (pc := 27) d_lw_law_27 (v := nI 5) rfl ?_
    refine e_isub (pc := 28) d_lw_law_28 ?_
    have hlt : nI G.2.2.2.2.1 - nI 5 < nI i := by
      by_cases c : G.2.2.2.2.1 < 5
      · exact lt_neg c (by omega)
      · rw [pk_sub (by omega), nI_ltI (by omega) (by omega)]
        omega
    refine e_icmp_gt (pc := 29) (tgt := 1509) d_lw_law_29 (by decide) (fun _ => ?_) (fun z => absurd hlt z)
    refine e_iconst (pc := 1509) d_lw_law_1509 (v := bI true) rfl ?_
    exact e_retB (pc := 1510) d_lw_law_1510 rfl rfl
  | succ g ih =>
    intro i x M f k5 k6 hs he hg hi5
    refine e_iload (pc := 23) d_lw_law_23 rfl ?_
    refine e_aload_n (pc := 25) d_lw_law_25 rfl ?_
    refine e_slen (pc := 26) d_lw_law_26 ?_
    refine e_iconst (pc := 27) d_lw_law_27 (v := nI 5) rfl ?_
    refine e_isub (pc := 28) d_lw_law_28 ?_
    refine e_icmp_gt (pc := 29) (tgt := 1509) d_lw_law_29 (by decide) (fun _ => ?_) (fun z => ?_)
    · refine e_iconst (pc := 1509) d_lw_law_1509 (v := bI true) rfl ?_
      exact e_retB (pc := 1510) d_lw_law_1510 rfl rfl
    · have hi : i + 5 ≤ G.2.2.2.2.1 := by
        by_cases c : G.2.2.2.2.1 < 5
        · exact absurd (lt_neg c (by omega)) z
        · rw [pk_sub (by omega), nI_ltI (by omega) (by omega)] at z
          omega
      have hG : G.2.2.2.2.1 < 2 ^ 31 := by omega
      have K : ∀ (x' : zX) (M' : mR) (f' : Nat → Int64) (k5 k6 : Option Value), LSt x' M' f' → Eq1 x x' → q_Ev l G m_lw_law 10 191 (16 * g) (96 * g) 1503 (lvL i k5 k6) [] (zs_put (x_h x') (x_R x')) (x_N x') Ql := by
        intro x' M' f' k5 k6 hs' he'
        refine e_iincN (pc := 1503) d_lw_law_1503 (a := i) (b := 5) rfl rfl (by decide) ?_
        refine e_goto (pc := 1506) (tgt := 23) d_lw_law_1506 (by decide) ?_
        exact ih (i + 5) x' M' f' k5 k6 hs' (by unfold Eq1 at he'; omega) (by omega) (by omega)
      refine e_aload_n (pc := 32) d_lw_law_32 rfl ?_
      refine e_iload (pc := 33) d_lw_law_33 rfl ?_
      refine e_sld (pc := 35) d_lw_law_35 (vp_inN (by omega) hG) ?_
      refine e_bipush (pc := 36) d_lw_law_36 (v := 31) rfl ?_
      refine e_iand (pc := 38) d_lw_law_38 ?_
      obtain ⟨n, hn, e⟩ := and31 (G.2.2.2.2.2 (nI i).toNatClampNeg)
      rw [e]
      have hep : z_ep (x_R x) + 1 < 100000 := by omega
      by_cases c : 18 < n
      · refine e_tableOut (pc := 39) (tgt := 1503) d_lw_law_39 (Or.inr (by rw [nI_toInt (by omega)]; omega)) (by decide) ?_
        exact q_Ev.room (K x M f k5 k6 hs (Eq1_of rfl)) (Nat.le_refl _) (Nat.le_refl _) (by omega) (by omega)
      · rcases (by omega : n = 0 ∨ n = 1 ∨ n = 2 ∨ n = 3 ∨ n = 4 ∨ n = 5 ∨ n = 6 ∨ n = 7 ∨ n = 8 ∨ n = 9 ∨ n = 10 ∨ n = 11 ∨ n = 12 ∨ n = 13 ∨ n = 14 ∨ n = 15 ∨ n = 16 ∨ n = 17 ∨ n = 18) with rfl | rfl | rfl | rfl | rfl | rfl | rfl | rfl | rfl | rfl | rfl | rfl | rfl | rfl | rfl | rfl | rfl | rfl | rfl
        · exact e_tableIn (pc := 39) (tgt := 128) (off := 89) d_lw_law_39 (by decide) (by decide) (by decide) (by decide) (lc_open htr hs hi hG hep K)
        · exact e_tableIn (pc := 39) (tgt := 208) (off := 169) d_lw_law_39 (by decide) (by decide) (by decide) (by decide) (lc_close htr hs hi hG hep K)
        · exact e_tableIn (pc := 39) (tgt := 264) (off := 225) d_lw_law_39 (by decide) (by decide) (by decide) (by decide) (lc_ping htr hs hi hG hep K)
        · exact e_tableIn (pc := 39) (tgt := 320) (off := 281) d_lw_law_39 (by decide) (by decide) (by decide) (by decide) (lc_move htr hs hi hG hep K)
        · exact e_tableIn (pc := 39) (tgt := 388) (off := 349) d_lw_law_39 (by decide) (by decide) (by decide) (by decide) (lc_create htr hs hi hG hep K)
        · exact e_tableIn (pc := 39) (tgt := 480) (off := 441) d_lw_law_39 (by decide) (by decide) (by decide) (by decide) (lc_set htr hs hi hG hep K)
        · exact e_tableIn (pc := 39) (tgt := 572) (off := 533) d_lw_law_39 (by decide) (by decide) (by decide) (by decide) (lc_delete htr hs hi hG hep K)
        · exact e_tableIn (pc := 39) (tgt := 652) (off := 613) d_lw_law_39 (by decide) (by decide) (by decide) (by decide) (lc_get htr hs hi hG hep K)
        · exact e_tableIn (pc := 39) (tgt := 748) (off := 709) d_lw_law_39 (by decide) (by decide) (by decide) (by decide) (lc_exists htr hs hi hG hep K)
        · exact e_tableIn (pc := 39) (tgt := 851) (off := 812) d_lw_law_39 (by decide) (by decide) (by decide) (by decide) (lc_children htr hs hi hG hep K)
        · exact e_tableIn (pc := 39) (tgt := 947) (off := 908) d_lw_law_39 (by decide) (by decide) (by decide) (by decide) (lc_fact htr hs hi hG hep K)
        · exact e_tableIn (pc := 39) (tgt := 1027) (off := 988) d_lw_law_39 (by decide) (by decide) (by decide) (by decide) (lc_event htr hs hi hG hep K)
        · exact e_tableIn (pc := 39) (tgt := 1083) (off := 1044) d_lw_law_39 (by decide) (by decide) (by decide) (by decide) (lc_crash htr hs hi hG hep K)
        · exact e_tableIn (pc := 39) (tgt := 1139) (off := 1100) d_lw_law_39 (by decide) (by decide) (by decide) (by decide) (lc_restart htr hs hi hG hep K)
        · exact e_tableIn (pc := 39) (tgt := 1195) (off := 1156) d_lw_law_39 (by decide) (by decide) (by decide) (by decide) (lc_alone htr hs hi hG hep K)
        · exact e_tableIn (pc := 39) (tgt := 1279) (off := 1240) d_lw_law_39 (by decide) (by decide) (by decide) (by decide) (lc_elect htr hs hi hG hep K)
        · exact e_tableIn (pc := 39) (tgt := 1323) (off := 1284) d_lw_law_39 (by decide) (by decide) (by decide) (by decide) (lc_tick htr hs hi hG hep K)
        · exact e_tableIn (pc := 39) (tgt := 1379) (off := 1340) d_lw_law_39 (by decide) (by decide) (by decide) (by decide) (lc_state htr hs hi hG hep K)
        · exact e_tableIn (pc := 39) (tgt := 1447) (off := 1408) d_lw_law_39 (by decide) (by decide) (by decide) (by decide) (lc_count htr hs hi hG hep K)
