/-! THE LOGIC'S ROWS for calls and throws -/
theorem q_good_G {μ : q_M} (hc : q_cw μ ∈ q_good) : GoodIn q_good (q_cw μ :: q_good) := fun w hw => by
  rcases List.mem_cons.mp hw with rfl | hw
  · exact ⟨hc, good_of_word (List.mem_filter.mp hc).2⟩
  · exact ⟨hw, good_of_word (List.mem_filter.mp hw).2⟩
def q_yok (y : MethodName) (n : Nat) : Prop := (y.cls ≠ "java/lang/invoke/MethodHandle" ∧ y.cls ≠ "java/lang/invoke/VarHandle") ∧ (parseMethodDescriptor y.desc).map (fun d => d.parameters.length) = some n
/-- the words of a call of an instance's method (own: the caller's class, idx: the place in its pool, n arguments) -/
def q_CV (own : String) (idx : Nat) (ν : q_M) (n : Nat) : Prop := ν.2.2.2.2 = [] ∧ q_cw ν ∈ q_good ∧ Cond.methodLink own idx ν.1 ∈ q_good ∧ Cond.instanceMethod ν.1 ∈ q_good ∧ Cond.selects ν.1.cls ν.1 ν.1 ∈ q_good ∧ Cond.initialized ν.1.cls ∈ q_good ∧ q_yok ν.1 n
/-- .. of a static one -/
def q_CS (own : String) (idx : Nat) (ν : q_M) (n : Nat) : Prop := ν.2.2.2.2 = [] ∧ q_cw ν ∈ q_good ∧ Cond.methodLink own idx ν.1 ∈ q_good ∧ Cond.static ν.1 ∈ q_good ∧ Cond.initialized ν.1.cls ∈ q_good ∧ q_yok ν.1 n
/-- .. of a constructor -/
def q_CI (own : String) (idx : Nat) (ν : q_M) (n : Nat) : Prop := ν.2.2.2.2 = [] ∧ ν.2.2.2.1 = none ∧ ν.1.name = "<init>" ∧ q_cw ν ∈ q_good ∧ Cond.methodLink own idx ν.1 ∈ q_good ∧ Cond.instanceMethod ν.1 ∈ q_good ∧ Cond.initialized ν.1.cls ∈ q_good ∧ q_yok ν.1 n
/-- .. of a nest mate's static method, of a nest mate's constructor -/
def q_CSN (own : String) (idx : Nat) (ν : q_M) (n : Nat) : Prop := ν.2.2.2.2 = [] ∧ q_cw ν ∈ q_good ∧ Cond.methodLinkNest own idx ν.1 "ZnodeService" ∈ q_nest ∧ Cond.static ν.1 ∈ q_good ∧ Cond.initialized ν.1.cls ∈ q_good ∧ q_yok ν.1 n
def q_CIN (own : String) (idx : Nat) (ν : q_M) (n : Nat) : Prop := ν.2.2.2.2 = [] ∧ ν.2.2.2.1 = none ∧ ν.1.name = "<init>" ∧ q_cw ν ∈ q_good ∧ Cond.methodLinkNest own idx ν.1 "ZnodeService" ∈ q_nest ∧ Cond.instanceMethod ν.1 ∈ q_good ∧ Cond.initialized ν.1.cls ∈ q_good ∧ q_yok ν.1 n
theorem q_cw0 {ν : q_M} (h : ν.2.2.2.2 = []) : q_cw ν = .code ν.1 ν.2.1 ν.2.2.1 ν.2.2.2.1 := by unfold q_cw; rw [h]
theorem q_K.call {G : q_G} {s U : State} {H : Heap} {locs : List Loc} (h : q_K G s) (hS : va_S (q_A G) s.heap H locs) (hU : U.heap = H) (hW : s.WarmedH U.vm) : q_K G U := h.moved hW (by rw [hU]; exact hS.1) (fun q h1 h2 => by rw [hU]; exact hS.2.1 q h1 h2)
/-- a method that throws nothing, as the kit's own contract -/
theorem q_Met.met {l : Launch} {G : q_G} {μ : q_M} {fr lo cc ss N : Nat} {av : List Value} {h : q_H} {Q : q_Q} (k : q_Met l G μ fr lo cc ss av h N Q) (hx : ∀ E h N, ¬ Q (.inr E) h N) : Met l μ.1 (q_cw μ :: q_good) { frames := fr, locals := lo, cells := cc, slots := ss } (q_Pc G av h N) (q_Qc G Q) cc ss (q_A G) := by
  intro p e ha hc hk s m args below hf hap hP hK
  obtain ⟨n, o, h1, h2, h3, h4⟩ := k p e ha hc hk s m args below hf hap hP hK
  refine ⟨n, o, h1, h2, h3, ?_⟩
  rcases h4 with h4 | ⟨q, -, E, ce, L, ⟨h', N', c2, -⟩, -⟩
  · exact h4
  · exact absurd c2 (hx _ _ _)
theorem q_tl (G : q_G) (r : Option Value) (st : List Value) : (r.map (q_v G)).toList ++ st.map (q_v G) = (r.toList ++ st).map (q_v G) := by cases r <;> simp
section QC
variable {l : Launch} {G : q_G} {μ ν : q_M} {fr lo cc ss pc N : Nat} {lv : List (Option Value)} {st : List Value} {h : q_H} {Q Q' : q_Q} {fr' lo' cc' ss' cc2 ss2 idx n : Nat} {As : List Value}
/-- behind a call that may throw, in a body without a table -/
theorem e_back (hh : μ.2.2.2.2 = []) (hcc : cc' + cc2 ≤ cc) (hss : ss' + ss2 ≤ ss)
    {p : Program} {e : Env} {R : Room} {s : State} {m : MethodId} {args : Array Value} {below : List Frame} {meth : Method} {c : Code} {H : Heap} {locs : List Loc} {cells slots mc ms : Nat} {ls : Array Slot} {sk : List Value} {a : Array Value}
    (C : q_Cx l G μ p s m args meth c) (hl : q_lv G ls μ.2.2.1 lv) (hS : va_S (q_A G) s.heap H locs) (hR : fr ≤ R.frames ∧ lo ≤ R.locals ∧ cells + cc ≤ R.cells ∧ slots + ss ≤ R.slots ∧ cells + cc ≤ mc ∧ slots + ss ≤ ms)
    (run : vx_Run p l e R s m args below meth c H locs cells slots cc' ss' (F0 m pc ls sk) (st.map (q_v G)) (q_Qc G Q' a) (q_XC G Q') (q_A G))
    (hx : ∀ E h' N', Q' (.inr E) h' N' → Q (.inr E) h' N') (kr : ∀ r h' N', Q' (.inl r) h' N' → q_Ev l G μ fr lo cc2 ss2 (pc + 3) lv (r.toList ++ st) h' N' Q) :
    W p l e R s m args below meth c H locs cells slots (vx_MQ below (q_Qc G Q) (q_XC G Q) args s mc ms (q_A G)) (F0 m pc ls sk) := by
  intro T hT X
  rcases run T hT X with ⟨v, st₀, t, T', L, h0, X', hL, e1, e2, ⟨r, h', N', hv, hq, hP', hF⟩, go⟩ | ⟨q, st₀, t, T', L, E, ce, h0, X', hL, e1, e2, ⟨h', N', hq, hP', hF⟩, hce, hcv, hcl, go⟩
  · cases hv
    obtain ⟨k1, k2, k3⟩ := vx_keep h0 e1 hS (fun _ _ z => z) (fun _ z => z) hL hF
    obtain ⟨t2, a1, b1⟩ := kr r h' N' hq p e R s m args below meth c T'.heap (locs ++ L) (cells + cc') (slots + ss') mc ms ls C hl (by rw [e1]; exact hP') k3 (by omega) T' rfl X'
    refine ⟨t2, go t2 ?_, b1⟩
    have := q_tl G r st
    simp only [this]
    exact a1
  · obtain ⟨k1, k2, k3⟩ := vx_keep h0 e1 hS (fun _ _ z => z) (fun _ z => z) hL hF
    have hout : ∀ x ∈ c.exceptionTable.toList, covers x pc = false := by
      rw [C.2.2.2.2.2.2.2.1, hh]
      intro x hx
      cases hx
    obtain ⟨t2, a1, b1⟩ := vx_out (Qc := q_Qc G Q) (XC := q_XC G Q) (free := q_A G) (below := below) (mc := mc) (ms := ms) (pc := pc) (ls := ls) (rest := st.map (q_v G)) hout C.2.2.2.2.2.2.1 (H := T'.heap) (by rw [e1]; exact hce) hcv hcl (fun t3 ht3 _ => ⟨h', N', hx _ _ _ hq, by rw [ht3, e1]; exact hP', k3.F ht3⟩) k3.2.2 (cells := cells + cc') (slots := slots + ss') (by omega) (by omega) T' rfl X'
    exact ⟨t2, go.trans a1, b1⟩
theorem e_callV {b ci nn : Nat} {T : u_T} {fs : List Value} (d : decode μ.2.1 pc = .ok (.invokevirtual idx, 3)) (hh : μ.2.2.2.2 = []) (hC : q_CV μ.1.cls idx ν n) (hb : h b = some (.inr (ci, fs))) (hcl : q_cl[ci]? = some (ν.1.cls, T, nn)) (hM : q_Met l G ν fr' lo' cc' ss' (.ref b :: As) h N Q') (hn : As.length = n) (hfr : fr' + 1 ≤ fr) (hlo : 8 + (ν.2.2.1 + 11) + lo' ≤ lo) (hcc : cc' + cc2 ≤ cc) (hss : ss' + ss2 ≤ ss) (hst : (st.map fun v => v.category).sum ≤ 8)
    (hx : ∀ E h' N', Q' (.inr E) h' N' → Q (.inr E) h' N') (kr : ∀ r h' N', Q' (.inl r) h' N' → q_Ev l G μ fr lo cc2 ss2 (pc + 3) lv (r.toList ++ st) h' N' Q) : q_Ev l G μ fr lo cc ss pc lv (As.reverse ++ .ref b :: st) h N Q := by
  intro p e R s m args below meth c H locs cells slots mc ms ls C hl hP hS hR
  obtain ⟨hx9, hb9, hr, hml, hown, hts, hlk, htb, hnm, htr, hK⟩ := id C
  obtain ⟨c1, c2, c3, c4, c5, c6, c7⟩ := hC
  rw [q_cw0 c1] at c2
  have hG := q_good_G (μ := ν) (by rw [q_cw0 c1]; exact c2)
  obtain ⟨r, h1, cell, q1, q2, q3, q4⟩ := (hP.2 b _ hb).2.2
  have hat : ∃ cell : Cell, H[q_ad G b]? = some cell ∧ cell.vm.isStatics = false ∧ s.vm.findClass ν.1.cls = some cell.cls := ⟨cell, q1, by rw [q3]; rfl, by rw [q2]; exact (hK.1.1 ci _ hcl).2.1⟩
  have run := vx_runV (p := p) (l := l) (e := e) (R := R) (s := s) (m := m) (args := args) (below := below) (meth := meth) (c := c) (H := H) (locs := locs) (cells := cells) (slots := slots) (Ts := q_good) (own := μ.1.cls) (C := ν.1.cls) (index := idx) (n := n) (bytes := ν.2.1) (maxL := ν.2.2.1) (ret := ν.2.2.2.1) (As := As.map (q_v G)) (b := q_ad G b) (rest := st.map (q_v G)) (g := F0 m pc ls ((As.reverse ++ .ref b :: st).map (q_v G))) ⟨hx9, hb9, hml, hown, hts⟩ hM
    ⟨callB_of n hts hG (by rw [q_cw0 c1]) rfl rfl (hts _ c6) (hts _ c3) ⟨c7.1.1, c7.1.2, c7.2⟩ ⟨Nat.le_trans hfr hR.1, Nat.le_trans hlo hR.2.1⟩, hts _ c4, hts _ c5⟩
    ⟨q_blind G _ h N, hat, fun U hU hW => ⟨rfl, by rw [hU]; exact hP, hK.call hS hU hW⟩⟩ rfl (by rw [List.length_map]; exact hn) hl.1 (by simp [q_v]) (lv_room (by rw [q_cats]; exact hst)) d ⟨by omega, by omega⟩
  exact e_back hh hcc hss C hl hS hR run hx kr
theorem e_callS (d : decode μ.2.1 pc = .ok (.invokestatic idx, 3)) (hh : μ.2.2.2.2 = []) (hC : q_CS μ.1.cls idx ν n) (hM : q_Met l G ν fr' lo' cc' ss' As h N Q') (hn : As.length = n) (hfr : fr' + 1 ≤ fr) (hlo : 8 + (ν.2.2.1 + 11) + lo' ≤ lo) (hcc : cc' + cc2 ≤ cc) (hss : ss' + ss2 ≤ ss) (hst : (st.map fun v => v.category).sum ≤ 8)
    (hx : ∀ E h' N', Q' (.inr E) h' N' → Q (.inr E) h' N') (kr : ∀ r h' N', Q' (.inl r) h' N' → q_Ev l G μ fr lo cc2 ss2 (pc + 3) lv (r.toList ++ st) h' N' Q) : q_Ev l G μ fr lo cc ss pc lv (As.reverse ++ st) h N Q := by
  intro p e R s m args below meth c H locs cells slots mc ms ls C hl hP hS hR
  obtain ⟨hx9, hb9, hr, hml, hown, hts, hlk, htb, hnm, htr, hK⟩ := id C
  obtain ⟨c1, c2, c3, c4, c5, c6⟩ := hC
  rw [q_cw0 c1] at c2
  have hG := q_good_G (μ := ν) (by rw [q_cw0 c1]; exact c2)
  have run := vx_runS (p := p) (l := l) (e := e) (R := R) (s := s) (m := m) (args := args) (below := below) (meth := meth) (c := c) (H := H) (locs := locs) (cells := cells) (slots := slots) (Ts := q_good) (own := μ.1.cls) (index := idx) (n := n) (bytes := ν.2.1) (maxL := ν.2.2.1) (ret := ν.2.2.2.1) (As := As.map (q_v G)) (rest := st.map (q_v G)) (g := F0 m pc ls ((As.reverse ++ st).map (q_v G))) ⟨hx9, hb9, hml, hown, hts⟩ hM
    ⟨callB_of n hts hG (by rw [q_cw0 c1]) rfl rfl (hts _ c5) (hts _ c3) ⟨c6.1.1, c6.1.2, c6.2⟩ ⟨Nat.le_trans hfr hR.1, Nat.le_trans hlo hR.2.1⟩, hts _ c4⟩
    ⟨q_blind G _ h N, fun U hU hW => ⟨rfl, by rw [hU]; exact hP, hK.call hS hU hW⟩⟩ rfl (by rw [List.length_map]; exact hn) hl.1 (by simp) (lv_room (by rw [q_cats]; exact hst)) d ⟨by omega, by omega⟩
  exact e_back hh hcc hss C hl hS hR run hx kr
/-- behind a call that throws nothing -/
theorem e_backN (hcc : cc' + cc2 ≤ cc) (hss : ss' + ss2 ≤ ss)
    {p : Program} {e : Env} {R : Room} {s : State} {m : MethodId} {args : Array Value} {below : List Frame} {meth : Method} {c : Code} {H : Heap} {locs : List Loc} {cells slots mc ms : Nat} {ls : Array Slot} {sk : List Value} {a : Array Value}
    (C : q_Cx l G μ p s m args meth c) (hl : q_lv G ls μ.2.2.1 lv) (hS : va_S (q_A G) s.heap H locs) (hR : fr ≤ R.frames ∧ lo ≤ R.locals ∧ cells + cc ≤ R.cells ∧ slots + ss ≤ R.slots ∧ cells + cc ≤ mc ∧ slots + ss ≤ ms)
    (run : va_Run p l e R s m args below meth c H locs cells slots cc' ss' (F0 m pc ls sk) (st.map (q_v G)) (q_Qc G Q' a) (q_A G))
    (kr : ∀ r h' N', Q' (.inl r) h' N' → q_Ev l G μ fr lo cc2 ss2 (pc + 3) lv (r.toList ++ st) h' N' Q) :
    W p l e R s m args below meth c H locs cells slots (vx_MQ below (q_Qc G Q) (q_XC G Q) args s mc ms (q_A G)) (F0 m pc ls sk) := by
  intro T hT X
  obtain ⟨v, st₀, t, T', L, h0, X', hL, e1, e2, ⟨r, h', N', hv, hq, hP', hF⟩, go⟩ := run T hT X
  cases hv
  obtain ⟨k1, k2, k3⟩ := vx_keep h0 e1 hS (fun _ _ z => z) (fun _ z => z) hL hF
  obtain ⟨t2, a1, b1⟩ := kr r h' N' hq p e R s m args below meth c T'.heap (locs ++ L) (cells + cc') (slots + ss') mc ms ls C hl (by rw [e1]; exact hP') k3 (by omega) T' rfl X'
  refine ⟨t2, go t2 ?_, b1⟩
  have := q_tl G r st
  simp only [this]
  exact a1
theorem e_callI {b : Nat} (d : decode μ.2.1 pc = .ok (.invokespecial idx, 3)) (hC : q_CI μ.1.cls idx ν n) (hM : q_Met l G ν fr' lo' cc' ss' (.ref b :: As) h N Q') (hn : As.length = n) (hfr : fr' + 1 ≤ fr) (hlo : 8 + (ν.2.2.1 + 11) + lo' ≤ lo) (hcc : cc' + cc2 ≤ cc) (hss : ss' + ss2 ≤ ss) (hst : (st.map fun v => v.category).sum ≤ 8)
    (hx : ∀ E h' N', ¬ Q' (.inr E) h' N') (kr : ∀ r h' N', Q' (.inl r) h' N' → q_Ev l G μ fr lo cc2 ss2 (pc + 3) lv (r.toList ++ st) h' N' Q) : q_Ev l G μ fr lo cc ss pc lv (As.reverse ++ .ref b :: st) h N Q := by
  intro p e R s m args below meth c H locs cells slots mc ms ls C hl hP hS hR
  obtain ⟨hx9, hb9, hr, hml, hown, hts, hlk, htb, hnm, htr, hK⟩ := id C
  obtain ⟨c1, c0, c8, c2, c3, c4, c6, c7⟩ := hC
  rw [q_cw0 c1] at c2
  have hG := q_good_G (μ := ν) (by rw [q_cw0 c1]; exact c2)
  have run := va_runI (p := p) (l := l) (e := e) (R := R) (s := s) (m := m) (args := args) (below := below) (meth := meth) (c := c) (H := H) (locs := locs) (cells := cells) (slots := slots) (Ts := q_good) (own := μ.1.cls) (index := idx) (n := n) (bytes := ν.2.1) (maxL := ν.2.2.1) (As := As.map (q_v G)) (b := q_ad G b) (rest := st.map (q_v G)) (g := F0 m pc ls ((As.reverse ++ .ref b :: st).map (q_v G))) ⟨hx9, hb9, hml, hown, hts⟩ (hM.met hx)
    ⟨callB_of n hts hG (by rw [q_cw0 c1, c0]) rfl rfl (hts _ c6) (hts _ c3) ⟨c7.1.1, c7.1.2, c7.2⟩ ⟨Nat.le_trans hfr hR.1, Nat.le_trans hlo hR.2.1⟩, c8, hts _ c4⟩
    ⟨q_blind G _ h N, fun U hU hW => ⟨rfl, by rw [hU]; exact hP, hK.call hS hU hW⟩⟩ rfl (by rw [List.length_map]; exact hn) hl.1 (by simp [q_v]) (lv_room (by rw [q_cats]; exact hst)) d ⟨by omega, by omega⟩
  exact e_backN hcc hss C hl hS hR run kr
theorem e_callIN {b : Nat} (d : decode μ.2.1 pc = .ok (.invokespecial idx, 3)) (hC : q_CIN μ.1.cls idx ν n) (hM : q_Met l G ν fr' lo' cc' ss' (.ref b :: As) h N Q') (hn : As.length = n) (hfr : fr' + 1 ≤ fr) (hlo : 8 + (ν.2.2.1 + 11) + lo' ≤ lo) (hcc : cc' + cc2 ≤ cc) (hss : ss' + ss2 ≤ ss) (hst : (st.map fun v => v.category).sum ≤ 8)
    (hx : ∀ E h' N', ¬ Q' (.inr E) h' N') (kr : ∀ r h' N', Q' (.inl r) h' N' → q_Ev l G μ fr lo cc2 ss2 (pc + 3) lv (r.toList ++ st) h' N' Q) : q_Ev l G μ fr lo cc ss pc lv (As.reverse ++ .ref b :: st) h N Q := by
  intro p e R s m args below meth c H locs cells slots mc ms ls C hl hP hS hR
  obtain ⟨hx9, hb9, hr, hml, hown, hts, hlk, htb, hnm, htr, hK⟩ := id C
  obtain ⟨c1, c0, c8, c2, c3, c4, c6, c7⟩ := hC
  rw [q_cw0 c1] at c2
  have hG := q_good_G (μ := ν) (by rw [q_cw0 c1]; exact c2)
  have run := va_runIN (p := p) (l := l) (e := e) (R := R) (s := s) (m := m) (args := args) (below := below) (meth := meth) (c := c) (H := H) (locs := locs) (cells := cells) (slots := slots) (Ts := q_good) (own := μ.1.cls) (host := "ZnodeService") (index := idx) (n := n) (bytes := ν.2.1) (maxL := ν.2.2.1) (As := As.map (q_v G)) (b := q_ad G b) (rest := st.map (q_v G)) (g := F0 m pc ls ((As.reverse ++ .ref b :: st).map (q_v G))) ⟨hx9, hb9, hml, hown, hts⟩ (hM.met hx)
    ⟨va_cnB n hts hG (by rw [q_cw0 c1, c0]) rfl rfl (hK.2.2.2.2.2.2.2.1 _ c3) (hts _ c6) ⟨c7.1.1, c7.1.2, c7.2⟩ ⟨Nat.le_trans hfr hR.1, Nat.le_trans hlo hR.2.1⟩, c8, hts _ c4⟩
    ⟨q_blind G _ h N, fun U hU hW => ⟨rfl, by rw [hU]; exact hP, hK.call hS hU hW⟩⟩ rfl (by rw [List.length_map]; exact hn) hl.1 (by simp [q_v]) (lv_room (by rw [q_cats]; exact hst)) d ⟨by omega, by omega⟩
  exact e_backN hcc hss C hl hS hR run kr
theorem e_callSN (d : decode μ.2.1 pc = .ok (.invokestatic idx, 3)) (hC : q_CSN μ.1.cls idx ν n) (hM : q_Met l G ν fr' lo' cc' ss' As h N Q') (hn : As.length = n) (hfr : fr' + 1 ≤ fr) (hlo : 8 + (ν.2.2.1 + 11) + lo' ≤ lo) (hcc : cc' + cc2 ≤ cc) (hss : ss' + ss2 ≤ ss) (hst : (st.map fun v => v.category).sum ≤ 8)
    (hx : ∀ E h' N', ¬ Q' (.inr E) h' N') (kr : ∀ r h' N', Q' (.inl r) h' N' → q_Ev l G μ fr lo cc2 ss2 (pc + 3) lv (r.toList ++ st) h' N' Q) : q_Ev l G μ fr lo cc ss pc lv (As.reverse ++ st) h N Q := by
  intro p e R s m args below meth c H locs cells slots mc ms ls C hl hP hS hR
  obtain ⟨hx9, hb9, hr, hml, hown, hts, hlk, htb, hnm, htr, hK⟩ := id C
  obtain ⟨c1, c2, c3, c4, c5, c6⟩ := hC
  rw [q_cw0 c1] at c2
  have hG := q_good_G (μ := ν) (by rw [q_cw0 c1]; exact c2)
  have run := va_runSN (p := p) (l := l) (e := e) (R := R) (s := s) (m := m) (args := args) (below := below) (meth := meth) (c := c) (H := H) (locs := locs) (cells := cells) (slots := slots) (Ts := q_good) (own := μ.1.cls) (host := "ZnodeService") (index := idx) (n := n) (bytes := ν.2.1) (maxL := ν.2.2.1) (ret := ν.2.2.2.1) (As := As.map (q_v G)) (rest := st.map (q_v G)) (g := F0 m pc ls ((As.reverse ++ st).map (q_v G))) ⟨hx9, hb9, hml, hown, hts⟩ (hM.met hx)
    ⟨va_cnB n hts hG (by rw [q_cw0 c1]) rfl rfl (hK.2.2.2.2.2.2.2.1 _ c3) (hts _ c5) ⟨c6.1.1, c6.1.2, c6.2⟩ ⟨Nat.le_trans hfr hR.1, Nat.le_trans hlo hR.2.1⟩, hts _ c4, trivial⟩
    ⟨q_blind G _ h N, fun U hU hW => ⟨rfl, by rw [hU]; exact hP, hK.call hS hU hW⟩⟩ rfl (by rw [List.length_map]; exact hn) hl.1 (by simp) (lv_room (by rw [q_cats]; exact hst)) d ⟨by omega, by omega⟩
  exact e_backN hcc hss C hl hS hR run kr
/-- the words of 'throw new E()' -/
def q_X (own : String) (ik ic : Nat) (E : String) : Prop := Bundle.fit E = true ∧ Cond.classLink own ik E ∈ q_good ∧ Cond.initialized E ∈ q_good ∧ (∀ w ∈ vx_at0 own ic E ["java/lang/RuntimeException", "java/lang/Exception"], w ∈ q_good ∨ w ∈ q_face)
theorem q_good_ot {w : Cond} (h : w ∈ q_good) : vx_ot w = true := by
  have := (List.mem_filter.mp h).2
  simp [vx_ot, this]
theorem q_face_ot {w : Cond} (h : w ∈ q_face) : vx_ot w = true := by
  have := (List.mem_filter.mp h).2
  simp only [q_fw, Bool.and_eq_true] at this
  simp [vx_ot, this.2]
theorem e_throw {ik ic : Nat} {E : String} (hh : μ.2.2.2.2 = []) (hX : q_X μ.1.cls ik ic E) (d0 : decode μ.2.1 pc = .ok (.new ik, 3)) (d3 : decode μ.2.1 (pc + 3) = .ok (.dup, 1)) (d4 : decode μ.2.1 (pc + 4) = .ok (.invokespecial ic, 3)) (d7 : decode μ.2.1 (pc + 7) = .ok (.athrow, 1)) (hfr : 6 ≤ fr) (hlo : (st.map fun v => v.category).sum + 81 ≤ lo) (hcc : 1 ≤ cc) (hss : 6 ≤ ss) (hq : ∀ N', N ≤ N' → Q (.inr E) h N') : q_Ev l G μ fr lo cc ss pc lv st h N Q := by
  intro p e R s m args below meth c H locs cells slots mc ms ls C hl hP hS hR
  obtain ⟨hx9, hb9, hr, hml, hown, hts, hlk, htb, hnm, htr, hK⟩ := id C
  obtain ⟨c1, c2, c3, c4⟩ := hX
  refine vx_throw0 (own := μ.1.cls) (cls := E) (names := ["java/lang/RuntimeException", "java/lang/Exception"]) (A := q_A G) hx9 hb9 htr hown c1 (by decide +kernel) (hts _ c2) (hts _ c3) (fun w hw => ?_) (fun w hw => ?_) hK.2.2.2.2.1 hK.2.2.2.2.2.1 hS (by rw [hml]; exact hl.1) d0 d3 d4 d7 ?_ ?_ ?_ (by omega) (by omega) hlk (fun t ha h1 h2 => ?_) hS.2.2 (by omega) (by omega)
  · rcases c4 w hw with h9 | h9
    · exact hts w h9
    · exact va_Nw.use (by have := (List.mem_filter.mp h9).2; simp only [q_fw, Bool.and_eq_true] at this; exact this.2) (hK.2.2.2.2.2.2.1 w h9)
  · rcases List.mem_cons.mp hw with rfl | hw
    · exact q_good_ot c2
    rcases List.mem_cons.mp hw with rfl | hw
    · exact q_good_ot c3
    · rcases c4 w hw with h9 | h9
      · exact q_good_ot h9
      · exact q_face_ot h9
  · rw [htb, hh]
    intro x hx
    cases hx
  · show 2 + 3 < R.frames
    omega
  · rw [q_cats]
    show _ + (13 * (2 + 1) + 42) ≤ _
    omega
  · refine ⟨h, t.heap.size - G.2.2.2.1, hq _ ?_, ⟨?_, fun k e2 hk => ?_⟩, ⟨Nat.le_trans hS.1 h1, fun q z1 z2 => (h2 q (Nat.lt_of_lt_of_le z1 hS.1)).trans (hS.2.1 q z1 z2)⟩⟩
    · have := hP.1
      omega
    · have := hP.1
      omega
    · obtain ⟨a1, a2, a3⟩ := hP.2 k e2 hk
      refine ⟨a1, ?_, a3.kept (h2 _ a3.lt)⟩
      have := hP.1
      omega
end QC
