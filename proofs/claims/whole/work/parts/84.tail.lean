/-! THE LAW'S CASES: their ends, and 'not 0' -/
abbrev lvL (i : Nat) (k5 k6 : Option Value) : List (Option Value) := [some (.ref 0), some (.ref 1), some (.ref 42), some (.ref 66), some (.int (nI i)), k5, k6]
theorem lg_cmp_s (a : Int64) : lg_cmp a a = 0 := by
  simp [lg_cmp]
theorem e_ne0 {l : Launch} {G : q_G} {μ : q_M} {fr lo cc ss pc N : Nat} {lv : List (Option Value)} {st : List Value} {h : q_H} {Q : q_Q} {v : Int32} {A B : Nat} (d1 : decode μ.2.1 pc = .ok (.ifCond .eq 7, 3)) (hA : ((pc : Nat) : Int) + 7 = (A : Int)) (d2 : decode μ.2.1 (pc + 3) = .ok (.iconst 1, 1)) (d3 : decode μ.2.1 (pc + 4) = .ok (.goto 4, 3)) (hB : ((pc + 4 : Nat) : Int) + 4 = (B : Int)) (d4 : decode μ.2.1 A = .ok (.iconst 0, 1)) (hAB : A + 1 = B) (k : q_Ev l G μ fr lo cc ss B lv (.int (bI (decide (¬ v = 0))) :: st) h N Q) : q_Ev l G μ fr lo cc ss pc lv (.int v :: st) h N Q := by
  refine e_if_eq d1 hA (fun z => ?_) (fun z => ?_)
  · refine e_iconst d4 (v := bI false) rfl ?_
    rw [hAB]
    rw [decide_eq_false (fun y => y z)] at k
    exact k
  · refine e_iconst d2 (v := bI true) rfl ?_
    refine e_goto d3 hB ?_
    rw [decide_eq_true z] at k
    exact k
theorem tailA {l : Launch} {G : q_G} (htr : l.stackTraces = false) {t : Nat} {g : q_H} {R : zR} {M : mR} {i k N cc ss : Nat} {v : Option Value} {Q : q_Q}
    (d0 : decode m_lw_law.2.1 t = .ok (.aload_n 2, 1)) (d1 : decode m_lw_law.2.1 (t + 1) = .ok (.invokevirtual 94, 3)) (d4 : decode m_lw_law.2.1 (t + 4) = .ok (.iload 5, 2)) (d6 : decode m_lw_law.2.1 (t + 6) = .ok (.if_icmp .eq 5, 3)) (d11 : decode m_lw_law.2.1 (t + 11) = .ok (.iload 5, 2)) (hk : k ≤ 5) (hth : M.1.1 = nI k)
    (kk : q_Ev l G m_lw_law 10 191 cc ss (t + 13) (lvL i (some (.int (nI k))) v) [.int (nI k)] (md_put (zs_put g R) M) N Q) : q_Ev l G m_lw_law 10 191 cc ss t (lvL i (some (.int (nI k))) v) [] (md_put (zs_put g R) M) N Q := by
  refine e_aload_n d0 rfl ?_
  refine e_callV (cc2 := cc) (ss2 := ss) (As := []) (st := []) d1 rfl cv_lw_94 (b := 42) (h := md_put (zs_put g R) M) rfl rfl (c_md_thrown htr) rfl (by decide) (Nat.le_of_ble_eq_true rfl) (Nat.le_of_eq (Nat.zero_add _)) (Nat.le_of_eq (Nat.zero_add _)) (by decide) (fun E h' N' hq => (by exact nomatch hq.1)) (fun rr h' N' hq => ?_)
  obtain ⟨q1, q2, q3⟩ := hq
  have q4 : rr = some (.int M.1.1) := Sum.inl.inj q1
  subst q4
  subst q2
  subst q3
  rw [hth]
  refine e_iload d4 rfl ?_
  refine e_icmp_eqN (tgt := t + 11) d6 (by omega) (by omega) (by omega) (fun _ => ?_) (fun z => absurd rfl z)
  refine e_iload d11 rfl ?_
  exact kk
theorem tailL {l : Launch} {G : q_G} (htr : l.stackTraces = false) {t : Nat} {g : q_H} {R : zR} {M : mR} {i k N cc ss : Nat} {v : Int32} {f : Nat → Int64} {off : Int} {Q : q_Q}
    (d0 : decode m_lw_law.2.1 t = .ok (.aload_n 2, 1)) (d1 : decode m_lw_law.2.1 (t + 1) = .ok (.invokevirtual 94, 3)) (d4 : decode m_lw_law.2.1 (t + 4) = .ok (.iload 5, 2)) (d6 : decode m_lw_law.2.1 (t + 6) = .ok (.if_icmp .eq 5, 3)) (d11 : decode m_lw_law.2.1 (t + 11) = .ok (.iload 5, 2))
    (d13 : decode m_lw_law.2.1 (t + 13) = .ok (.ifCond .ne 15, 3)) (d16 : decode m_lw_law.2.1 (t + 16) = .ok (.aload_n 3, 1)) (d17 : decode m_lw_law.2.1 (t + 17) = .ok (.iconst 0, 1)) (d18 : decode m_lw_law.2.1 (t + 18) = .ok (.laload, 1)) (d19 : decode m_lw_law.2.1 (t + 19) = .ok (.iload 6, 2)) (d21 : decode m_lw_law.2.1 (t + 21) = .ok (.i2l, 1)) (d22 : decode m_lw_law.2.1 (t + 22) = .ok (.lcmp, 1)) (d23 : decode m_lw_law.2.1 (t + 23) = .ok (.ifCond .eq 5, 3)) (d28 : decode m_lw_law.2.1 (t + 28) = .ok (.goto off, 3)) (ho : ((t + 28 : Nat) : Int) + off = ((1503 : Nat) : Int))
    (hk : k ≤ 5) (hth : M.1.1 = nI k) (hv : k = 0 → f 0 = v.toInt64) (h66 : md_put g M 66 = some (q_al 1 f))
    (kk : q_Ev l G m_lw_law 10 191 cc ss 1503 (lvL i (some (.int (nI k))) (some (.int v))) [] (zs_put (md_put g M) R) N Q) : q_Ev l G m_lw_law 10 191 cc ss t (lvL i (some (.int (nI k))) (some (.int v))) [] (md_put (zs_put g R) M) N Q := by
  refine tailA htr d0 d1 d4 d6 d11 hk hth ?_
  rw [← zm_comm]
  refine e_if_neN (tgt := t + 28) d13 (by omega) (by omega) (fun _ => e_goto d28 ho kk) (fun z => ?_)
  refine e_aload_n d16 rfl ?_
  refine e_iconst d17 (v := nI 0) rfl ?_
  refine e_lald d18 ((zs_hi (by decide)).trans h66) (vp_inN (by decide) (by decide)) ?_
  refine e_iload d19 rfl ?_
  refine e_i2l d21 ?_
  refine e_lcmp d22 ?_
  have e0 : f (nI 0).toNatClampNeg = v.toInt64 := by rw [nI_clamp (by decide)]; exact hv z
  rw [e0, lg_cmp_s]
  exact e_if_eq (tgt := t + 28) d23 (by omega) (fun _ => e_goto d28 ho kk) (fun z => absurd rfl z)
theorem tailE {l : Launch} {G : q_G} (htr : l.stackTraces = false) {t : Nat} {g : q_H} {R : zR} {M : mR} {i k N cc ss : Nat} {v : Int32} {b : Bool} {f : Nat → Int64} {off : Int} {Q : q_Q}
    (d0 : decode m_lw_law.2.1 t = .ok (.aload_n 2, 1)) (d1 : decode m_lw_law.2.1 (t + 1) = .ok (.invokevirtual 94, 3)) (d4 : decode m_lw_law.2.1 (t + 4) = .ok (.iload 5, 2)) (d6 : decode m_lw_law.2.1 (t + 6) = .ok (.if_icmp .eq 5, 3)) (d11 : decode m_lw_law.2.1 (t + 11) = .ok (.iload 5, 2))
    (d13 : decode m_lw_law.2.1 (t + 13) = .ok (.ifCond .ne 22, 3)) (d16 : decode m_lw_law.2.1 (t + 16) = .ok (.aload_n 3, 1)) (d17 : decode m_lw_law.2.1 (t + 17) = .ok (.iconst 0, 1)) (d18 : decode m_lw_law.2.1 (t + 18) = .ok (.laload, 1)) (d19 : decode m_lw_law.2.1 (t + 19) = .ok (.iload 6, 2)) (d21 : decode m_lw_law.2.1 (t + 21) = .ok (.ifCond .eq 7, 3)) (d24 : decode m_lw_law.2.1 (t + 24) = .ok (.lconst 1, 1)) (d25 : decode m_lw_law.2.1 (t + 25) = .ok (.goto 4, 3)) (d28 : decode m_lw_law.2.1 (t + 28) = .ok (.lconst 0, 1)) (d29 : decode m_lw_law.2.1 (t + 29) = .ok (.lcmp, 1)) (d30 : decode m_lw_law.2.1 (t + 30) = .ok (.ifCond .eq 5, 3)) (d35 : decode m_lw_law.2.1 (t + 35) = .ok (.goto off, 3)) (ho : ((t + 35 : Nat) : Int) + off = ((1503 : Nat) : Int))
    (hk : k ≤ 5) (hth : M.1.1 = nI k) (hv : k = 0 → f 0 = v.toInt64) (hb : v = bI b) (h66 : md_put g M 66 = some (q_al 1 f))
    (kk : q_Ev l G m_lw_law 10 191 cc ss 1503 (lvL i (some (.int (nI k))) (some (.int v))) [] (zs_put (md_put g M) R) N Q) : q_Ev l G m_lw_law 10 191 cc ss t (lvL i (some (.int (nI k))) (some (.int v))) [] (md_put (zs_put g R) M) N Q := by
  refine tailA htr d0 d1 d4 d6 d11 hk hth ?_
  rw [← zm_comm]
  refine e_if_neN (tgt := t + 35) d13 (by omega) (by omega) (fun _ => e_goto d35 ho kk) (fun z => ?_)
  refine e_aload_n d16 rfl ?_
  refine e_iconst d17 (v := nI 0) rfl ?_
  refine e_lald d18 ((zs_hi (by decide)).trans h66) (vp_inN (by decide) (by decide)) ?_
  refine e_iload d19 rfl ?_
  have e0 : f (nI 0).toNatClampNeg = v.toInt64 := by rw [nI_clamp (by decide)]; exact hv z
  rw [e0]
  subst hb
  refine e_ifB_eq (tgt := t + 28) d21 (by omega) (fun y => ?_) (fun y => ?_)
  · refine e_lconst d28 (v := (bI b).toInt64) (by rw [y]; rfl) ?_
    refine e_lcmp d29 ?_
    rw [lg_cmp_s]
    exact e_if_eq (tgt := t + 35) d30 (by omega) (fun _ => e_goto d35 ho kk) (fun z => absurd rfl z)
  · refine e_lconst d24 (v := (bI b).toInt64) (by rw [y]; rfl) ?_
    refine e_goto (tgt := t + 29) d25 (by omega) ?_
    refine e_lcmp d29 ?_
    rw [lg_cmp_s]
    exact e_if_eq (tgt := t + 35) d30 (by omega) (fun _ => e_goto d35 ho kk) (fun z => absurd rfl z)
