/-! THE LOGIC'S ROWS for a call in a body with a table of handlers, and for a call of such a body -/
theorem q_lv.unset {G : q_G} {ls ls' : Array Slot} {nL i : Nat} {lv : List (Option Value)} {w0 : Value} (h : q_lv G ls nL lv) (h' : lv_has ls' nL ((i, w0) :: (q_pr G lv).filter (fun q => !(q.1 == i) && !(q.1 + 1 == i && q.2.category == 2)))) : q_lv G ls' nL (lv.set i none) := by
  refine ⟨h'.1, h'.2.1, fun j w hj => ?_⟩
  by_cases e : i = j
  · subst e
    rw [List.getElem?_set_self'] at hj
    cases hl : lv[i]? with
    | none => simp [hl] at hj
    | some x => simp [hl] at hj
  · rw [List.getElem?_set_ne e] at hj
    have h3 := h.2.2 j w hj
    refine ⟨h'.2.2 (j, q_v G w) (List.mem_cons_of_mem _ (List.mem_filter.mpr ⟨q_pr_mem.mpr ⟨w, hj, rfl⟩, ?_⟩)), h3.2⟩
    have e2 : ¬ j = i := fun q => e q.symm
    simp [e2, q_v_cat, h3.2]
/-- where a thrown E goes in μ's body, thrown at pc -/
def q_Hd (μ : q_M) (pc : Nat) (E : String) (hp : Nat) : Prop := ∃ (pre : List ExceptionTableEntry) (x : ExceptionTableEntry) (suf : List ExceptionTableEntry) (name : String), tableOf μ.2.2.2.2 = pre ++ x :: suf ∧ (∀ z ∈ pre, z.catchType ≠ 0 ∧ ∃ nm : String, Cond.classLink μ.1.cls z.catchType nm ∈ q_good ∧ (E, nm) ∈ q_nc) ∧ covers x pc = true ∧ x.catchType ≠ 0 ∧ Cond.classLink μ.1.cls x.catchType name ∈ q_good ∧ Cond.castable E name ∈ q_face ∧ x.handlerPc = hp
section QT
variable {l : Launch} {G : q_G} {μ ν : q_M} {fr lo cc ss pc N : Nat} {lv : List (Option Value)} {st : List Value} {h : q_H} {Q Q' : q_Q} {fr' lo' cc' ss' cc2 ss2 idx n : Nat} {As : List Value}
theorem e_callVT {b ci nn : Nat} {T : u_T} {fs : List Value} (d : decode μ.2.1 pc = .ok (.invokevirtual idx, 3)) (hC : q_CV μ.1.cls idx ν n) (hb : h b = some (.inr (ci, fs))) (hcl : q_cl[ci]? = some (ν.1.cls, T, nn)) (hM : q_Met l G ν fr' lo' cc' ss' (.ref b :: As) h N Q') (hn : As.length = n) (hfr : fr' + 1 ≤ fr) (hlo : 8 + (ν.2.2.1 + 11) + lo' ≤ lo) (hcc : cc' + cc2 ≤ cc) (hss : ss' + ss2 ≤ ss) (hst : (st.map fun v => v.category).sum ≤ 8)
    (kx : ∀ E h' N', Q' (.inr E) h' N' → ∃ (hp k len : Nat), q_Hd μ pc E hp ∧ (decode μ.2.1 hp = .ok (.astore k, 2) ∧ len = 2 ∨ ∃ k4 : Fin 4, decode μ.2.1 hp = .ok (.astore_n k4, 1) ∧ (k4 : Nat) = k ∧ len = 1) ∧ k < μ.2.2.1 ∧ q_Ev l G μ fr lo cc2 ss2 (hp + len) (lv.set k none) [] h' N' Q)
    (kr : ∀ r h' N', Q' (.inl r) h' N' → q_Ev l G μ fr lo cc2 ss2 (pc + 3) lv (r.toList ++ st) h' N' Q) : q_Ev l G μ fr lo cc ss pc lv (As.reverse ++ .ref b :: st) h N Q := by
  intro p e R s m args below meth c H locs cells slots mc ms ls C hl hP hS hR
  obtain ⟨hx9, hb9, hr, hml, hown, hts, hlk, htb, hnm, htr, hK⟩ := id C
  obtain ⟨c1, c2, c3, c4, c5, c6, c7⟩ := hC
  rw [q_cw0 c1] at c2
  have hG := q_good_G (μ := ν) (by rw [q_cw0 c1]; exact c2)
  obtain ⟨r, h1, cell, q1, q2, q3, q4⟩ := (hP.2 b _ hb).2.2
  have hat : ∃ cell : Cell, H[q_ad G b]? = some cell ∧ cell.vm.isStatics = false ∧ s.vm.findClass ν.1.cls = some cell.cls := ⟨cell, q1, by rw [q3]; rfl, by rw [q2]; exact (hK.1.1 ci _ hcl).2.1⟩
  have run := vx_runV (p := p) (l := l) (e := e) (R := R) (s := s) (m := m) (args := args) (below := below) (meth := meth) (c := c) (H := H) (locs := locs) (cells := cells) (slots := slots) (Ts := q_good) (own := μ.1.cls) (C := ν.1.cls) (index := idx) (n := n) (bytes := ν.2.1) (maxL := ν.2.2.1) (ret := ν.2.2.2.1) (As := As.map (q_v G)) (b := q_ad G b) (rest := st.map (q_v G)) (g := F0 m pc ls ((As.reverse ++ .ref b :: st).map (q_v G))) ⟨hx9, hb9, hml, hown, hts⟩ hM
    ⟨callB_of n hts hG (by rw [q_cw0 c1]) rfl rfl (hts _ c6) (hts _ c3) ⟨c7.1.1, c7.1.2, c7.2⟩ ⟨Nat.le_trans hfr hR.1, Nat.le_trans hlo hR.2.1⟩, hts _ c4, hts _ c5⟩
    ⟨q_blind G _ h N, hat, fun U hU hW => ⟨rfl, by rw [hU]; exact hP, hK.call hS hU hW⟩⟩ rfl (by rw [List.length_map]; exact hn) hl.1 (by simp [q_v]) (lv_room (by rw [q_cats]; exact hst)) d ⟨by omega, by omega⟩
  intro T hT X
  rcases run T hT X with ⟨v, st₀, t, T', L, h0, X', hL, e1, e2, ⟨r, h', N', hv, hq, hP', hF⟩, go⟩ | ⟨q, st₀, t, T', L, E, ce, h0, X', hL, e1, e2, ⟨h', N', hq, hP', hF⟩, hce, hcv, hcl9, go⟩
  · cases hv
    obtain ⟨k1, k2, k3⟩ := vx_keep h0 e1 hS (fun _ _ z => z) (fun _ z => z) hL hF
    obtain ⟨t2, a1, b1⟩ := kr r h' N' hq p e R s m args below meth c T'.heap (locs ++ L) (cells + cc') (slots + ss') mc ms ls C hl (by rw [e1]; exact hP') k3 (by omega) T' rfl X'
    refine ⟨t2, go t2 ?_, b1⟩
    have := q_tl G r st
    simp only [this]
    exact a1
  · obtain ⟨k1, k2, k3⟩ := vx_keep h0 e1 hS (fun _ _ z => z) (fun _ z => z) hL hF
    obtain ⟨hp, k, len, ⟨pre, x, suf, name, t1, t2, t3, t4, t5, t6, t7⟩, hd, hk, kk⟩ := kx E h' N' hq
    have hcf : Cond.onTables (Cond.castable E name) = true := rfl
    have K : vx_W p l e R s m args below meth c T'.heap (locs ++ L) (cells + cc') (slots + ss') (vx_MQ below (q_Qc G Q) (q_XC G Q) args s mc ms (q_A G)) (F0 m pc ls (st.map (q_v G))) q := by
      refine vx_catch (own := μ.1.cls) (name := name) (E := E) (ce := ce) hown pre x suf (htb.trans t1) (fun z hz => Or.inr ⟨(t2 z hz).1, ?_⟩) t3 t4 (hts _ t5) (va_Nw.use hcf (hK.2.2.2.2.2.2.1 _ t6)) (by rw [e1]; exact hce) hcv hcl9 ?_
      · obtain ⟨nm, g1, g2⟩ := (t2 z hz).2
        exact ⟨nm, hts _ g1, hK.2.2.2.2.2.2.2.2.1 (E, nm) g2⟩
      · rw [t7]
        rcases hd with ⟨hd, rfl⟩ | ⟨k4, hd, rfl, rfl⟩
        · refine lv_astore hx9 hb9 hd hl.has hk rfl (fun ls2 h2 => ?_)
          exact kk p e R s m args below meth c T'.heap (locs ++ L) (cells + cc') (slots + ss') mc ms ls2 C (hl.unset h2) (by rw [e1]; exact hP') k3 (by omega)
        · refine lv_astore_n hx9 hb9 hd rfl hl.has hk rfl (fun ls2 h2 => ?_)
          exact kk p e R s m args below meth c T'.heap (locs ++ L) (cells + cc') (slots + ss') mc ms ls2 C (hl.unset h2) (by rw [e1]; exact hP') k3 (by omega)
    obtain ⟨t2', a1, b1⟩ := K T' rfl X'
    exact ⟨t2', go.trans a1, b1⟩
/-- the words of a call of a static method with a table -/
def q_CSX (own : String) (idx : Nat) (ν : q_M) (n : Nat) : Prop := (∃ x r, ν.2.2.2.2 = x :: r) ∧ q_cw ν ∈ q_good ∧ Cond.methodLink own idx ν.1 ∈ q_good ∧ Cond.static ν.1 ∈ q_good ∧ Cond.initialized ν.1.cls ∈ q_good ∧ q_yok ν.1 n
theorem e_callSX (d : decode μ.2.1 pc = .ok (.invokestatic idx, 3)) (hh : μ.2.2.2.2 = []) (hC : q_CSX μ.1.cls idx ν n) (hM : q_Met l G ν fr' lo' cc' ss' As h N Q') (hn : As.length = n) (hfr : fr' + 1 ≤ fr) (hlo : 8 + (ν.2.2.1 + 11) + lo' ≤ lo) (hcc : cc' + cc2 ≤ cc) (hss : ss' + ss2 ≤ ss) (hst : (st.map fun v => v.category).sum ≤ 8)
    (hx : ∀ E h' N', Q' (.inr E) h' N' → Q (.inr E) h' N') (kr : ∀ r h' N', Q' (.inl r) h' N' → q_Ev l G μ fr lo cc2 ss2 (pc + 3) lv (r.toList ++ st) h' N' Q) : q_Ev l G μ fr lo cc ss pc lv (As.reverse ++ st) h N Q := by
  intro p e R s m args below meth c H locs cells slots mc ms ls C hl hP hS hR
  obtain ⟨hx9, hb9, hr, hml, hown, hts, hlk, htb, hnm, htr, hK⟩ := id C
  obtain ⟨⟨x0, r0, c1⟩, c2, c3, c4, c5, c6⟩ := hC
  have hG := q_good_G (μ := ν) c2
  have hcw : q_cw ν = .codeWith ν.1 ν.2.1 ν.2.2.1 ν.2.2.2.1 (x0 :: r0) := by unfold q_cw; rw [c1]
  have run := vx_runSX (p := p) (l := l) (e := e) (R := R) (s := s) (m := m) (args := args) (below := below) (meth := meth) (c := c) (H := H) (locs := locs) (cells := cells) (slots := slots) (Ts := q_good) (own := μ.1.cls) (index := idx) (n := n) (bytes := ν.2.1) (maxL := ν.2.2.1) (ret := ν.2.2.2.1) (hh := x0 :: r0) (As := As.map (q_v G)) (rest := st.map (q_v G)) (g := F0 m pc ls ((As.reverse ++ st).map (q_v G))) ⟨hx9, hb9, hml, hown, hts⟩ hM
    ⟨⟨rfl, rfl, Nat.le_trans hfr hR.1, Nat.le_trans hlo hR.2.1, pay_in hts hG, by rw [hcw]; exact List.mem_cons_self⟩, by rw [← hcw]; exact hts _ c2, hts _ c5, ⟨c6.1.1, c6.1.2⟩, fun sig h9 => by have h8 := c6.2; rw [h9] at h8; exact (Option.some.inj h8).symm, hts _ c3, hts _ c4⟩
    ⟨q_blind G _ h N, fun U hU hW => ⟨rfl, by rw [hU]; exact hP, hK.call hS hU hW⟩⟩ rfl (by rw [List.length_map]; exact hn) hl.1 (by simp) (lv_room (by rw [q_cats]; exact hst)) d ⟨by omega, by omega⟩
  exact e_back hh hcc hss C hl hS hR run hx kr
end QT
