/-! THE CLASS'S PUBLIC METHODS (3): crash, restart, alone, tick, close -/
theorem zOK_sV {h : q_H} {E : Nat → zE} {R : zR} (hO : zOK h E R) (k : Nat) (up al : Bool) : zOK h E (z_sV R k (v_lf (z_V R k), v_ln (z_V R k), v_ap (z_V R k), v_ag (z_V R k), up, al)) := by
  refine ⟨hO.1, hO.2.1, hO.2.2.1, fun i hi => ?_⟩
  by_cases c : i = k
  · subst c
    simp only [z_V, z_sV, va_up, if_true]
    exact hO.2.2.2 i hi
  · simp only [z_V, z_sV, va_up, if_neg c]
    exact hO.2.2.2 i hi
theorem zOK_s0 {h : q_H} {E : Nat → zE} {R : zR} (hO : zOK h E R) {ld : Option Nat} {ep : Nat} (tm : Int32) (h1 : ∀ k, ld = some k → k < 3) (h2 : ep < 100000) : zOK h E (z_s0 R ld ep tm) := ⟨h1, hO.2.1, h2, hO.2.2.2⟩
theorem zOK_sS {h : q_H} {E : Nat → zE} {R : zR} (hO : zOK h E R) (j : Nat) {y : zS} (h1 : s_sv y < 3) (h2 : (s_X y).2.2 ≤ 8) : zOK h E (z_sS R j y) := by
  refine ⟨hO.1, fun k => ?_, hO.2.2⟩
  by_cases c : k = j
  · subst c
    simp only [z_S, z_sS, va_up, if_true]
    exact ⟨h1, h2⟩
  · simp only [z_S, z_sS, va_up, if_neg c]
    exact hO.2.1 k
/-- session j's watches go -/
def z_dw (R : zR) (j : Nat) : zR := z_sS R j ((fillN (s_X (z_S R j)).1 259 (nI 0), (s_X (z_S R j)).2), (z_S R j).2)
/-- the watches of the sessions below n at server k go -/
def crK (k : Nat) (R : zR) : Nat → zR
  | 0 => R
  | n + 1 => if (s_op (z_S (crK k R n) n) && decide (s_sv (z_S (crK k R n) n) = k)) = true then z_dw (crK k R n) n else crK k R n
theorem zOK_crK {h : q_H} {E : Nat → zE} {R : zR} (hO : zOK h E R) (k : Nat) : ∀ n, zOK h E (crK k R n) := by
  intro n
  induction n with
  | zero => exact hO
  | succ n ih =>
    unfold crK
    split
    · exact zOK_sS ih n (ih.2.1 n).1 (ih.2.1 n).2
    · exact ih
theorem crK_V (k : Nat) (R : zR) : ∀ n, z_V (crK k R n) = z_V R := by
  intro n
  induction n with
  | zero => rfl
  | succ n ih =>
    unfold crK
    split
    · exact ih
    · exact ih
def z_cr0 (k : Nat) (R : zR) : zR := z_s0 (z_sV R k (v_lf (z_V R k), v_ln (z_V R k), v_ap (z_V R k), v_ag (z_V R k), false, v_al (z_V R k))) (if z_ld R = some k then none else z_ld R) (z_ep R) (z_tm R)
def z_crash (i : Int32) (x : zX) : zO := if (nI 0 ≤ i ∧ i ≤ nI 2) then if v_up (z_V (x_R x) (nT i)) = true then (zI (nI (v_ln (z_V (x_R x) (nT i)))), x_sR x (crK (nT i) (z_cr0 (nT i) (x_R x)) 4)) else (.inr ISE, x) else (.inr IAE, x)
theorem zOK_cr0 {h : q_H} {E : Nat → zE} {R : zR} (hO : zOK h E R) (k : Nat) : zOK h E (z_cr0 k R) := zOK_s0 (zOK_sV hO k false _) _ (fun j hj => by
  split at hj
  · cases hj
  · exact hO.1 j hj) hO.2.2.1
set_option maxHeartbeats 4000000 in
set_option maxRecDepth 100000 in
theorem lp_zs_crash {l : Launch} {G : q_G} (htr : l.stackTraces = false) {h : q_H} {N : Nat} {R : zR} {E : Nat → zE} (hO : zOK h E R) {k : Nat} (hk : k < 3) {Q : q_Q} (kk : q_Ev l G m_zs_crash 8 127 15 90 75 [some (.ref 1), some (.int (nI k)), some (.ref (9 + 7 * k)), none] [] (zs_put h (crK k R 4)) N Q) : ∀ (g n : Nat), 4 < n + g → n ≤ 4 → q_Ev l G m_zs_crash 8 127 15 90 46 [some (.ref (1)), some (.int (nI (k))), some (.ref (9 + 7 * k)), some (.int (nI (n)))] [] (zs_put h (crK k R n)) N Q := by
  intro g
  induction g with
  | zero => intro n hg hn; omega
  | succ g ih =>
    intro n hg hn
    have hOn := zOK_crK hO k n
    refine e_iload_n (pc := 46) d_zs_crash_46 rfl ?_
    refine e_iconst (pc := 47) d_zs_crash_47 (v := (nI (4))) rfl ?_
    refine e_icmp_geN (pc := 48) (tgt := 75) d_zs_crash_48 (by decide) (by omega) (by omega) (fun c => ?_) (fun c => ?_)
    · have hn4 : n = 4 := by omega
      subst hn4
      exact q_Ev.fo [some (.ref 1), some (.int (nI k)), some (.ref (9 + 7 * k)), none] ⟨rfl, rfl, rfl, trivial⟩ kk
    · refine e_aload_n (pc := 51) d_zs_crash_51 rfl ?_
      refine e_iload_n (pc := 52) d_zs_crash_52 rfl ?_
      refine e_iload_n (pc := 53) d_zs_crash_53 rfl ?_
      refine e_callV (As := [.int (nI (n)), .int (nI (k))]) (st := []) (cc2 := 15) (ss2 := 90) (pc := 54) d_zs_crash_54 rfl cv_zs_176 zs_g1 rfl (c_zs_isAt htr c hk (hOn.2.1 n).1) rfl (by decide) (by decide) (by omega) (by omega) (Nat.le_of_ble_eq_true rfl) (fun _ _ _ hq => nomatch hq.1) (fun r h2 N2 hq => ?_)
      obtain ⟨hr, e1, e2⟩ := hq
      cases hr
      rw [e1, e2]
      clear e1 e2
      show q_Ev l G m_zs_crash 8 127 15 90 57 [some (.ref (1)), some (.int (nI (k))), some (.ref (9 + 7 * k)), some (.int (nI (n)))] [.int (bI (s_op (z_S (crK k R n) n) && decide (s_sv (z_S (crK k R n) n) = k)))] (zs_put h (crK k R n)) N _
      refine e_ifB_eq (pc := 57) (tgt := 69) d_zs_crash_57 (by decide) (fun c2 => ?_) (fun c2 => ?_)
      · refine e_iincN (pc := 69) d_zs_crash_69 (a := n) (b := 1) rfl rfl (by decide) ?_
        refine e_goto (pc := 72) (tgt := 46) d_zs_crash_72 (by decide) ?_
        have e1 : crK k R (n + 1) = crK k R n := by rw [crK, if_neg (by rw [c2]; decide)]
        have := ih (n + 1) (by omega) (by omega)
        rw [e1] at this
        exact this
      · refine e_aload_n (pc := 60) d_zs_crash_60 rfl ?_
        refine e_get (pc := 61) d_zs_crash_61 fl_zs_17 zs_g1 rfl ?_
        refine e_iload_n (pc := 64) d_zs_crash_64 rfl ?_
        refine e_aaldN (pc := 65) d_zs_crash_65 zs_g3 (fun _ => rfl) (by omega) (by decide) rfl ?_
        refine e_callV (As := []) (st := []) (cc2 := 15) (ss2 := 90) (pc := 66) d_zs_crash_66 rfl cv_zs_103 (zs_s c).1 rfl (c_ss_dropWatches htr (zs_s c)) rfl (by decide) (by decide) (by omega) (by omega) (Nat.le_of_ble_eq_true rfl) (fun _ _ _ hq => nomatch hq.1) (fun r h2 N2 hq => ?_)
        obtain ⟨hr, e1, e2⟩ := hq
        cases hr
        rw [e1, e2]
        clear e1 e2
        show q_Ev l G m_zs_crash 8 127 15 90 69 [some (.ref (1)), some (.int (nI (k))), some (.ref (9 + 7 * k)), some (.int (nI (n)))] [] _ N _
        rw [zs_uS c]
        refine e_iincN (pc := 69) d_zs_crash_69 (a := n) (b := 1) rfl rfl (by decide) ?_
        refine e_goto (pc := 72) (tgt := 46) d_zs_crash_72 (by decide) ?_
        have e1 : crK k R (n + 1) = z_dw (crK k R n) n := by rw [crK, if_pos c2]
        have := ih (n + 1) (by omega) (by omega)
        rw [e1] at this
        exact this
set_option maxHeartbeats 4000000 in
set_option maxRecDepth 100000 in
theorem c_zs_crash {l : Launch} {G : q_G} (htr : l.stackTraces = false) {x : zX} {i : Int32} (hx : xOK x) : q_Met l G m_zs_crash 8 127 16 96 [.ref (1), .int (i)] (zs_put (x_h x) (x_R x)) (x_N x) (q_Z (z_crash i x)) := by
  obtain ⟨r, hr0⟩ : ∃ r, r = z_crash i x := ⟨_, rfl⟩
  rw [← hr0]
  refine q_Met.mk htr (by decide +kernel) rfl (List.forall_mem_cons.mpr ⟨rfl, List.forall_mem_cons.mpr ⟨rfl, fun _ h => nomatch h⟩⟩) (Nat.le_of_ble_eq_true rfl) ?_
  refine e_iload_n (pc := 0) d_zs_crash_0 rfl ?_
  refine e_callS (As := [.int (i)]) (st := []) (cc2 := 15) (ss2 := 90) (pc := 1) d_zs_crash_1 rfl cs_zs_44 (c_zs_requireServer htr) rfl (by decide) (by decide) (by omega) (by omega) (Nat.le_of_ble_eq_true rfl) (fun _ _ _ hq => q_Z_bad (fun z => by rw [hr0]; unfold z_crash; rw [if_neg z]) hq (Nat.le_refl _)) (fun r h2 N2 hq => ?_)
  obtain ⟨e1, -, ⟨hok, hr, e2⟩ | ⟨-, hr⟩⟩ := hq; rotate_left; exact nomatch hr
  cases hr
  rw [e1, e2]
  clear e1 e2
  show q_Ev l G m_zs_crash 8 127 15 90 4 [some (.ref (1)), some (.int (i)), none, none] [] (zs_put (x_h x) (x_R x)) (x_N x) _
  have hok1 := hok
  obtain ⟨k, hk, ek⟩ := q_ofL (n := 2) (by decide) hok1
  subst ek
  unfold z_crash at hr0
  rw [if_pos hok1, nT_n (by omega)] at hr0
  refine e_aload_n (pc := 4) d_zs_crash_4 rfl ?_
  refine e_get (pc := 5) d_zs_crash_5 fl_zs_11 zs_g1 rfl ?_
  refine e_iload_n (pc := 8) d_zs_crash_8 rfl ?_
  refine e_aaldN (pc := 9) d_zs_crash_9 zs_g2 (fun _ => rfl) (by omega) (by decide) rfl ?_
  refine e_astore_n (pc := 10) d_zs_crash_10 (by decide) ?_
  refine e_aload_n (pc := 11) d_zs_crash_11 rfl ?_
  refine e_get (pc := 12) d_zs_crash_12 fl_zs_97 (zs_v hk).1 rfl ?_
  refine e_ifB_ne (pc := 15) (tgt := 26) d_zs_crash_15 (by decide) (fun c => ?_) (fun c => ?_)
  · rw [if_pos c] at hr0
    refine q_Ev.hp (sv_put_id (zs_v hk)) ?_
    refine e_aload_n (pc := 26) d_zs_crash_26 rfl ?_
    refine e_iconst (pc := 27) d_zs_crash_27 (v := (bI (false))) rfl ?_
    refine e_putE (pc := 28) d_zs_crash_28 (fs2 := [.ref (9 + 7 * k + 1), .ref (9 + 7 * k + 2), .int (nI (v_ln (z_V (x_R x) k))), .int (nI (v_ap (z_V (x_R x) k))), .int (nI (v_ag (z_V (x_R x) k))), .int (bI (false)), .int (bI (v_al (z_V (x_R x) k)))]) fl_zs_97 sv_g0 (Nat.le_of_ble_eq_true rfl) (fun _ => bI_nar _) (fun _ => by first | rfl | (cases (false : Bool) <;> rfl)) rfl ?_
    rw [sv_u0]
    rw [zs_uV hk]
    refine e_iload_n (pc := 31) d_zs_crash_31 rfl ?_
    refine e_aload_n (pc := 32) d_zs_crash_32 rfl ?_
    refine e_get (pc := 33) d_zs_crash_33 fl_zs_28 (zs_g1 (R := (z_sV (x_R x) k (v_lf (z_V (x_R x) k), v_ln (z_V (x_R x) k), v_ap (z_V (x_R x) k), v_ag (z_V (x_R x) k), false, v_al (z_V (x_R x) k))))) rfl ?_
    refine e_icmp_ne (pc := 36) (tgt := 44) d_zs_crash_36 (by decide) (fun c2 => ?_) (fun c2 => ?_)
    · have hl : ¬ z_ld (x_R x) = some k := mt (ldI_eq hx.1.1 hk).mpr c2
      refine q_Ev.hp (h1 := zs_put (x_h x) (z_cr0 k (x_R x))) (by unfold z_cr0; rw [if_neg hl]; rfl) ?_
      refine e_iconst (pc := 44) d_zs_crash_44 (v := (nI (0))) rfl ?_
      refine e_istore_n (pc := 45) d_zs_crash_45 (by decide) ?_
      refine lp_zs_crash htr (zOK_cr0 hx.1 k) hk ?_ 5 0 (by omega) (by omega)
      have hV : sv_At (zs_put (x_h x) (crK k (z_cr0 k (x_R x)) 4)) (9 + 7 * k) (v_lf (z_V (x_R x) k)) (v_ln (z_V (x_R x) k)) (v_ap (z_V (x_R x) k)) (v_ag (z_V (x_R x) k)) false (v_al (z_V (x_R x) k)) := by
        have := zs_v (h := x_h x) (R := crK k (z_cr0 k (x_R x)) 4) hk
        rw [crK_V] at this
        simpa [z_cr0, z_s0, z_sV, z_V, va_up] using this
      refine e_aload_n (pc := 75) d_zs_crash_75 rfl ?_
      refine e_get (pc := 76) d_zs_crash_76 fl_zs_179 hV.1 rfl ?_
      exact e_iret (pc := 79) d_zs_crash_79 rfl (by rw [hr0]; exact ⟨rfl, rfl, Nat.le_refl _⟩)
    · have hl : z_ld (x_R x) = some k := (ldI_eq hx.1.1 hk).mp c2
      refine e_aload_n (pc := 39) d_zs_crash_39 rfl ?_
      refine e_iconst (pc := 40) d_zs_crash_40 (v := (-1)) rfl ?_
      refine e_putE (pc := 41) (fs2 := [.ref 2, .ref 3, .ref 4, .int (ldI none), .int (nI (z_ep (x_R x))), .int (z_tm (x_R x))]) d_zs_crash_41 fl_zs_28 (zs_g1 (R := (z_sV (x_R x) k (v_lf (z_V (x_R x) k), v_ln (z_V (x_R x) k), v_ap (z_V (x_R x) k), v_ag (z_V (x_R x) k), false, v_al (z_V (x_R x) k))))) (Nat.le_of_ble_eq_true rfl) (fun _ => rfl) (fun _ => rfl) rfl ?_
      refine q_Ev.hp (h1 := zs_put (x_h x) (z_cr0 k (x_R x))) (by unfold z_cr0; rw [if_pos hl]; exact zs_u1.symm) ?_
      refine e_iconst (pc := 44) d_zs_crash_44 (v := (nI (0))) rfl ?_
      refine e_istore_n (pc := 45) d_zs_crash_45 (by decide) ?_
      refine lp_zs_crash htr (zOK_cr0 hx.1 k) hk ?_ 5 0 (by omega) (by omega)
      have hV : sv_At (zs_put (x_h x) (crK k (z_cr0 k (x_R x)) 4)) (9 + 7 * k) (v_lf (z_V (x_R x) k)) (v_ln (z_V (x_R x) k)) (v_ap (z_V (x_R x) k)) (v_ag (z_V (x_R x) k)) false (v_al (z_V (x_R x) k)) := by
        have := zs_v (h := x_h x) (R := crK k (z_cr0 k (x_R x)) 4) hk
        rw [crK_V] at this
        simpa [z_cr0, z_s0, z_sV, z_V, va_up] using this
      refine e_aload_n (pc := 75) d_zs_crash_75 rfl ?_
      refine e_get (pc := 76) d_zs_crash_76 fl_zs_179 hV.1 rfl ?_
      exact e_iret (pc := 79) d_zs_crash_79 rfl (by rw [hr0]; exact ⟨rfl, rfl, Nat.le_refl _⟩)
  · exact e_throw (pc := 18) rfl xx_zs_66 d_zs_crash_18 d_zs_crash_21 d_zs_crash_22 d_zs_crash_25 (by decide) (Nat.le_of_ble_eq_true rfl) (by omega) (by omega) (fun N2 hN => by rw [hr0, if_neg (by rw [c]; decide)]; exact ⟨rfl, rfl, hN⟩)
def x_sp (x : zX) : zX := x_sR x (spR (x_E x) (x_R x))
theorem xOK_sp {x : zX} (h : xOK x) : xOK (x_sp x) := ⟨zOK_sp h.1, h.2⟩
def z_rs0 (k : Nat) (x : zX) : zX := x_sp (x_sR x (z_sV (x_R x) k (v_lf (z_V (x_R x) k), v_ln (z_V (x_R x) k), v_ap (z_V (x_R x) k), v_ag (z_V (x_R x) k), true, v_al (z_V (x_R x) k))))
def z_restart (i : Int32) (x : zX) : zO := if (nI 0 ≤ i ∧ i ≤ nI 2) then if v_up (z_V (x_R x) (nT i)) = false then (zI (nI (v_ap (z_V (x_R (z_rs0 (nT i) x)) (nT i)))), x_cd (z_rs0 (nT i) x)) else (.inr ISE, x) else (.inr IAE, x)
def z_al0 (k : Nat) (b : Bool) (x : zX) : zX := x_sp (x_sR x (z_sV (x_R x) k (v_lf (z_V (x_R x) k), v_ln (z_V (x_R x) k), v_ap (z_V (x_R x) k), v_ag (z_V (x_R x) k), v_up (z_V (x_R x) k), b)))
def z_alone (i : Int32) (b : Bool) (x : zX) : zO := if (nI 0 ≤ i ∧ i ≤ nI 2) then (zI (if v_al (z_V (x_R x) (nT i)) = b then nI 0 else nI 1), x_cd (z_al0 (nT i) b x)) else (.inr IAE, x)
set_option maxHeartbeats 4000000 in
set_option maxRecDepth 100000 in
theorem c_zs_restart {l : Launch} {G : q_G} (htr : l.stackTraces = false) {x : zX} {i : Int32} (hx : xOK x) (hc : ∀ k, k < 3 → clOK 4 0 (z_rs0 k x)) : q_Met l G m_zs_restart 8 136 16 96 [.ref (1), .int (i)] (zs_put (x_h x) (x_R x)) (x_N x) (q_Z (z_restart i x)) := by
  obtain ⟨r, hr0⟩ : ∃ r, r = z_restart i x := ⟨_, rfl⟩
  rw [← hr0]
  refine q_Met.mk htr (by decide +kernel) rfl (List.forall_mem_cons.mpr ⟨rfl, List.forall_mem_cons.mpr ⟨rfl, fun _ h => nomatch h⟩⟩) (Nat.le_of_ble_eq_true rfl) ?_
  refine e_iload_n (pc := 0) d_zs_restart_0 rfl ?_
  refine e_callS (As := [.int (i)]) (st := []) (cc2 := 15) (ss2 := 90) (pc := 1) d_zs_restart_1 rfl cs_zs_44 (c_zs_requireServer htr) rfl (by decide) (by decide) (by omega) (by omega) (Nat.le_of_ble_eq_true rfl) (fun _ _ _ hq => q_Z_bad (fun z => by rw [hr0]; unfold z_restart; rw [if_neg z]) hq (Nat.le_refl _)) (fun r h2 N2 hq => ?_)
  obtain ⟨e1, -, ⟨hok, hr, e2⟩ | ⟨-, hr⟩⟩ := hq; rotate_left; exact nomatch hr
  cases hr
  rw [e1, e2]
  clear e1 e2
  show q_Ev l G m_zs_restart 8 136 15 90 4 [some (.ref (1)), some (.int (i)), none, none] [] (zs_put (x_h x) (x_R x)) (x_N x) _
  have hok1 := hok
  obtain ⟨k, hk, ek⟩ := q_ofL (n := 2) (by decide) hok1
  subst ek
  unfold z_restart at hr0
  rw [if_pos hok1, nT_n (by omega)] at hr0
  refine e_aload_n (pc := 4) d_zs_restart_4 rfl ?_
  refine e_get (pc := 5) d_zs_restart_5 fl_zs_11 zs_g1 rfl ?_
  refine e_iload_n (pc := 8) d_zs_restart_8 rfl ?_
  refine e_aaldN (pc := 9) d_zs_restart_9 zs_g2 (fun _ => rfl) (by omega) (by decide) rfl ?_
  refine e_astore_n (pc := 10) d_zs_restart_10 (by decide) ?_
  refine e_aload_n (pc := 11) d_zs_restart_11 rfl ?_
  refine e_get (pc := 12) d_zs_restart_12 fl_zs_97 (zs_v hk).1 rfl ?_
  refine e_ifB_eq (pc := 15) (tgt := 26) d_zs_restart_15 (by decide) (fun c => ?_) (fun c => ?_)
  · rw [if_pos c] at hr0
    refine q_Ev.hp (sv_put_id (zs_v hk)) ?_
    refine e_aload_n (pc := 26) d_zs_restart_26 rfl ?_
    refine e_iconst (pc := 27) d_zs_restart_27 (v := (bI (true))) rfl ?_
    refine e_putE (pc := 28) d_zs_restart_28 (fs2 := [.ref (9 + 7 * k + 1), .ref (9 + 7 * k + 2), .int (nI (v_ln (z_V (x_R x) k))), .int (nI (v_ap (z_V (x_R x) k))), .int (nI (v_ag (z_V (x_R x) k))), .int (bI (true)), .int (bI (v_al (z_V (x_R x) k)))]) fl_zs_97 sv_g0 (Nat.le_of_ble_eq_true rfl) (fun _ => bI_nar _) (fun _ => by first | rfl | (cases (true : Bool) <;> rfl)) rfl ?_
    rw [sv_u0]
    rw [zs_uV hk]
    obtain ⟨y, hy⟩ : ∃ y, y = z_rs0 k x := ⟨_, rfl⟩
    have hxy : xOK y := by rw [hy]; exact xOK_sp ⟨zOK_sV hx.1 k _ _, hx.2⟩
    rw [← hy] at hr0
    refine e_aload_n (pc := 31) d_zs_restart_31 rfl ?_
    refine e_callV (As := []) (st := []) (cc2 := 15) (ss2 := 90) (pc := 32) d_zs_restart_32 rfl cv_zs_182 zs_g1 rfl (c_zs_spread htr (zOK_sV hx.1 k _ _)) rfl (by decide) (by decide) (by omega) (by omega) (Nat.le_of_ble_eq_true rfl) (fun _ _ _ hq => nomatch hq.1) (fun r h2 N2 hq => ?_)
    obtain ⟨hr, e1, e2⟩ := hq
    cases hr
    rw [e1, e2]
    clear e1 e2
    show q_Ev l G m_zs_restart 8 136 15 90 35 [some (.ref (1)), some (.int (nI (k))), some (.ref (9 + 7 * k)), none] [] _ (x_N x) _
    refine q_Ev.hp (h1 := zs_put (x_h y) (x_R y)) (by rw [hy]; rfl) ?_
    have eN : x_N x = x_N y := by rw [hy]; rfl
    rw [eN]
    refine e_aload_n (pc := 35) d_zs_restart_35 rfl ?_
    refine e_get (pc := 36) d_zs_restart_36 fl_zs_185 (zs_v hk).1 rfl ?_
    refine e_istore_n (pc := 39) d_zs_restart_39 (by decide) ?_
    refine e_aload_n (pc := 40) d_zs_restart_40 rfl ?_
    have hcy : clOK 4 0 y := by rw [hy]; exact hc k hk
    refine e_callV (As := []) (st := []) (cc2 := 11) (ss2 := 70) (pc := 41) d_zs_restart_41 rfl cv_zs_85 zs_g1 rfl (c_zs_closeDue htr hxy hcy) rfl (by decide) (by decide) (by omega) (by omega) (Nat.le_of_ble_eq_true rfl) (fun _ _ _ hq => nomatch hq.1) (fun r h2 N2 hq => ?_)
    obtain ⟨hr, e1, e2⟩ := hq
    cases hr
    rw [e1, e2]
    clear e1 e2
    show q_Ev l G m_zs_restart 8 136 11 70 44 [some (.ref (1)), some (.int (nI (k))), some (.ref (9 + 7 * k)), some (.int (nI (v_ap (z_V (x_R y) k))))] [] _ _ _
    refine e_iload_n (pc := 44) d_zs_restart_44 rfl ?_
    exact e_iret (pc := 45) d_zs_restart_45 rfl (by rw [hr0]; exact ⟨rfl, rfl, Nat.le_refl _⟩)
  · exact e_throw (pc := 18) rfl xx_zs_66 d_zs_restart_18 d_zs_restart_21 d_zs_restart_22 d_zs_restart_25 (by decide) (Nat.le_of_ble_eq_true rfl) (by omega) (by omega) (fun N2 hN => by rw [hr0, if_neg (by rw [c]; decide)]; exact ⟨rfl, rfl, hN⟩)
theorem bI_inj {a b : Bool} (h : bI a = bI b) : a = b := by cases a <;> cases b <;> first | rfl | exact absurd h (by decide)
set_option maxHeartbeats 4000000 in
set_option maxRecDepth 100000 in
theorem c_zs_alone {l : Launch} {G : q_G} (htr : l.stackTraces = false) {x : zX} {i : Int32} {b : Bool} (hx : xOK x) (hc : ∀ k, k < 3 → clOK 4 0 (z_al0 k b x)) : q_Met l G m_zs_alone 8 136 16 96 [.ref (1), .int (i), .int (bI (b))] (zs_put (x_h x) (x_R x)) (x_N x) (q_Z (z_alone i b x)) := by
  obtain ⟨r, hr0⟩ : ∃ r, r = z_alone i b x := ⟨_, rfl⟩
  rw [← hr0]
  refine q_Met.mk htr (by decide +kernel) rfl (List.forall_mem_cons.mpr ⟨rfl, List.forall_mem_cons.mpr ⟨rfl, List.forall_mem_cons.mpr ⟨rfl, fun _ h => nomatch h⟩⟩⟩) (Nat.le_of_ble_eq_true rfl) ?_
  refine e_iload_n (pc := 0) d_zs_alone_0 rfl ?_
  refine e_callS (As := [.int (i)]) (st := []) (cc2 := 15) (ss2 := 90) (pc := 1) d_zs_alone_1 rfl cs_zs_44 (c_zs_requireServer htr) rfl (by decide) (by decide) (by omega) (by omega) (Nat.le_of_ble_eq_true rfl) (fun _ _ _ hq => q_Z_bad (fun z => by rw [hr0]; unfold z_alone; rw [if_neg z]) hq (Nat.le_refl _)) (fun r h2 N2 hq => ?_)
  obtain ⟨e1, -, ⟨hok, hr, e2⟩ | ⟨-, hr⟩⟩ := hq; rotate_left; exact nomatch hr
  cases hr
  rw [e1, e2]
  clear e1 e2
  show q_Ev l G m_zs_alone 8 136 15 90 4 [some (.ref (1)), some (.int (i)), some (.int (bI (b))), none] [] (zs_put (x_h x) (x_R x)) (x_N x) _
  have hok1 := hok
  obtain ⟨k, hk, ek⟩ := q_ofL (n := 2) (by decide) hok1
  subst ek
  unfold z_alone at hr0
  rw [if_pos hok1, nT_n (by omega)] at hr0
  refine e_aload_n (pc := 4) d_zs_alone_4 rfl ?_
  refine e_get (pc := 5) d_zs_alone_5 fl_zs_11 zs_g1 rfl ?_
  refine e_iload_n (pc := 8) d_zs_alone_8 rfl ?_
  refine e_aaldN (pc := 9) d_zs_alone_9 zs_g2 (fun _ => rfl) (by omega) (by decide) rfl ?_
  refine e_get (pc := 10) d_zs_alone_10 fl_zs_188 (zs_v hk).1 rfl ?_
  refine e_istore_n (pc := 13) d_zs_alone_13 (by decide) ?_
  refine e_aload_n (pc := 14) d_zs_alone_14 rfl ?_
  refine e_get (pc := 15) d_zs_alone_15 fl_zs_11 zs_g1 rfl ?_
  refine e_iload_n (pc := 18) d_zs_alone_18 rfl ?_
  refine e_aaldN (pc := 19) d_zs_alone_19 zs_g2 (fun _ => rfl) (by omega) (by decide) rfl ?_
  refine e_iload_n (pc := 20) d_zs_alone_20 rfl ?_
  refine q_Ev.hp (sv_put_id (zs_v hk)) ?_
  refine e_putE (pc := 21) d_zs_alone_21 (fs2 := [.ref (9 + 7 * k + 1), .ref (9 + 7 * k + 2), .int (nI (v_ln (z_V (x_R x) k))), .int (nI (v_ap (z_V (x_R x) k))), .int (nI (v_ag (z_V (x_R x) k))), .int (bI (v_up (z_V (x_R x) k))), .int (bI (b))]) fl_zs_188 sv_g0 (Nat.le_of_ble_eq_true rfl) (fun _ => bI_nar _) (fun _ => by first | rfl | (cases (b : Bool) <;> rfl)) rfl ?_
  rw [sv_u0]
  rw [zs_uV hk]
  obtain ⟨y, hy⟩ : ∃ y, y = z_al0 k b x := ⟨_, rfl⟩
  have hxy : xOK y := by rw [hy]; exact xOK_sp ⟨zOK_sV hx.1 k _ _, hx.2⟩
  rw [← hy] at hr0
  refine e_aload_n (pc := 24) d_zs_alone_24 rfl ?_
  refine e_callV (As := []) (st := []) (cc2 := 15) (ss2 := 90) (pc := 25) d_zs_alone_25 rfl cv_zs_182 zs_g1 rfl (c_zs_spread htr (zOK_sV hx.1 k _ _)) rfl (by decide) (by decide) (by omega) (by omega) (Nat.le_of_ble_eq_true rfl) (fun _ _ _ hq => nomatch hq.1) (fun r h2 N2 hq => ?_)
  obtain ⟨hr, e1, e2⟩ := hq
  cases hr
  rw [e1, e2]
  clear e1 e2
  show q_Ev l G m_zs_alone 8 136 15 90 28 [some (.ref (1)), some (.int (nI (k))), some (.int (bI (b))), some (.int (bI (v_al (z_V (x_R x) k))))] [] _ (x_N x) _
  refine q_Ev.hp (h1 := zs_put (x_h y) (x_R y)) (by rw [hy]; rfl) ?_
  have eN : x_N x = x_N y := by rw [hy]; rfl
  rw [eN]
  have hcy : clOK 4 0 y := by rw [hy]; exact hc k hk
  refine e_aload_n (pc := 28) d_zs_alone_28 rfl ?_
  refine e_callV (As := []) (st := []) (cc2 := 11) (ss2 := 70) (pc := 29) d_zs_alone_29 rfl cv_zs_85 zs_g1 rfl (c_zs_closeDue htr hxy hcy) rfl (by decide) (by decide) (by omega) (by omega) (Nat.le_of_ble_eq_true rfl) (fun _ _ _ hq => nomatch hq.1) (fun r h2 N2 hq => ?_)
  obtain ⟨hr, e1, e2⟩ := hq
  cases hr
  rw [e1, e2]
  clear e1 e2
  show q_Ev l G m_zs_alone 8 136 11 70 32 [some (.ref (1)), some (.int (nI (k))), some (.int (bI (b))), some (.int (bI (v_al (z_V (x_R x) k))))] [] _ _ _
  refine e_iload_n (pc := 32) d_zs_alone_32 rfl ?_
  refine e_iload_n (pc := 33) d_zs_alone_33 rfl ?_
  refine e_icmp_eq (pc := 34) (tgt := 41) d_zs_alone_34 (by decide) (fun c => ?_) (fun c => ?_)
  · refine e_iconst (pc := 41) d_zs_alone_41 (v := (nI (0))) rfl ?_
    exact e_iret (pc := 42) d_zs_alone_42 rfl (by rw [hr0, if_pos (bI_inj c)]; exact ⟨rfl, rfl, Nat.le_refl _⟩)
  · refine e_iconst (pc := 37) d_zs_alone_37 (v := (nI (1))) rfl ?_
    refine e_goto (pc := 38) (tgt := 42) d_zs_alone_38 (by decide) ?_
    exact e_iret (pc := 42) d_zs_alone_42 rfl (by rw [hr0, if_neg (fun w => c (by rw [w]))]; exact ⟨rfl, rfl, Nat.le_refl _⟩)
