/-! THE CLAIM OUT OF ONE WALK OF THE LAW'S BODY. Your part is whole_start (and what it stands on); all else here is the same for every law, but numbers. -/
def R_law : String := "ZnodeServiceLaw"
def lw_P (b : Addr) (xs : List Int32) (args : Array Value) (s : State) : Prop := args = #[.ref b] ∧ s.IntsAt b xs ∧ xs.length ≤ 2560 ∧ (Jvm.Cond.and given_1 narrow_1).before args s = true
def lw_Q (_ : Array Value) (s : State) (o : Outcome) (t : State) : Prop := o = .returned (some (.int 1)) ∧ Framed s o t [] 601024 7293034
def lw_Z (below : List Frame) (a : Array Value) (s : State) : State → Prop := fun t => ∃ o, t.status = .running ∧ Ended t below o ∧ lw_Q a s o t
/-- what holds at the law's entry: the machine, the code, the tables' words (any of lw_tbl by 'hts w (by decide +kernel)'), the script of L ints xs at the cell b, what the Statement gives of the start (any of its parts by flat_of_before) -/
def lw_At (p : Program) (s : State) (m : MethodId) (meth : Method) (c : Code) (b L : Nat) (xs : Nat → Int32) : Prop :=
  p.tables.exec = Jvm.exec ∧ c.code = code ∧ meth.sig.returnType = ret ∧ c.maxLocals = 7 ∧ s.vm.findClass R_law = some m.cls ∧ (∀ w ∈ lw_tbl, w.before #[Value.ref b] s = true) ∧ va_X b L xs s s.heap ∧ b < s.heap.size ∧ meth.locks = false ∧ (Jvm.Cond.and given_1 narrow_1).before #[Value.ref b] s = true ∧ c.exceptionTable.toList = [] ∧ meth.name = "law"
theorem lw_gd {w : Cond} (h : w ∈ q_good) : w ∈ lw_tbl := (List.mem_filter.mp h).1
set_option maxHeartbeats 4000000 in
set_option maxRecDepth 100000 in
/-- the machine's tables, as the logic has them -/
theorem whole_K {s : State} {b L : Nat} {xs : Nat → Int32} (hts : ∀ w ∈ lw_tbl, w.before #[Value.ref b] s = true) (hX : va_X b L xs s s.heap) (hbl : b < s.heap.size) (hgv : (Jvm.Cond.and given_1 narrow_1).before #[Value.ref b] s = true) : ∃ G : q_G, G.2.2.1 = b ∧ G.2.2.2.1 = s.heap.size ∧ G.2.2.2.2.1 = L ∧ q_K G s := by
  have hfl := flat_of_before _ hgv
  obtain ⟨c0, i0, h0⟩ := u_known (C := q_R0) (T := q_T0) (N := 5) (n := 5) hts (fun w hw => lw_gd (q_ws0 w hw)) (hts (.instantiable q_R0 5) (by decide +kernel))
  obtain ⟨c1, i1, h1⟩ := u_known (C := q_R1) (T := q_T1) (N := 7) (n := 7) hts (fun w hw => lw_gd (q_ws1 w hw)) (hts (.instantiable q_R1 7) (by decide +kernel))
  obtain ⟨c2, i2, h2⟩ := u_known (C := q_R2) (T := q_T2) (N := 8) (n := 8) hts (fun w hw => lw_gd (q_ws2 w hw)) (hts (.instantiable q_R2 8) (by decide +kernel))
  obtain ⟨c3, i3, h3⟩ := u_known (C := q_R3) (T := q_T3) (N := 4) (n := 4) hts (fun w hw => lw_gd (q_ws3 w hw)) (hts (.instantiable q_R3 4) (by decide +kernel))
  obtain ⟨c4, i4, h4⟩ := u_known (C := q_R4) (T := q_T4) (N := 6) (n := 6) hts (fun w hw => lw_gd (q_ws4 w hw)) (hts (.instantiable q_R4 6) (by decide +kernel))
  obtain ⟨c5, i5, h5⟩ := u_known (C := q_R5) (T := q_T5) (N := 27) (n := 27) hts (fun w hw => lw_gd (q_ws5 w hw)) (hts (.instantiable q_R5 27) (by decide +kernel))
  obtain ⟨dC, dI, hKc⟩ : ∃ (dC : Nat → ClassId) (dI : Nat → Nat → Nat), ∀ (k : Nat) (q : vw_C), q_cl[k]? = some q → u_Kn s q.1 q.2.1 q.2.2 (dC k) (dI k) := by
    refine ⟨fun k => if k = 0 then c0 else if k = 1 then c1 else if k = 2 then c2 else if k = 3 then c3 else if k = 4 then c4 else c5, fun k => if k = 0 then i0 else if k = 1 then i1 else if k = 2 then i2 else if k = 3 then i3 else if k = 4 then i4 else i5, ?_⟩
    intro k q hq
    match k, hq with
    | 0, hq => cases hq; exact h0
    | 1, hq => cases hq; exact h1
    | 2, hq => cases hq; exact h2
    | 3, hq => cases hq; exact h3
    | 4, hq => cases hq; exact h4
    | 5, hq => cases hq; exact h5
    | k + 6, hq => simp [q_cl] at hq
  obtain ⟨a0, k0, m0, e0, f0, g0⟩ := Cond.arrayClass_spec (hts (.arrayClass .int) (lw_gd k_55))
  obtain ⟨a1, k1, m1, e1, f1, g1⟩ := Cond.arrayClass_spec (hts (.arrayClass .long) (lw_gd k_877))
  obtain ⟨a2, k2, m2, e2, f2, g2⟩ := Cond.arrayClass_spec (hts (.arrayClass .boolean) (lw_gd k_704))
  have w3 := hts (.arrayOver (.object "ZnodeService$Server")) (List.mem_of_getElem? (i := 65) (by decide +kernel))
  have w4 := hts (.arrayOver (.object "ZnodeService$Session")) (List.mem_of_getElem? (i := 67) (by decide +kernel))
  have w5 := hts (.arrayOver (.object "ZnodeService$Entry")) (List.mem_of_getElem? (i := 102) (by decide +kernel))
  obtain ⟨m3, a3, k3, e3, -, f3, g3, n3⟩ := Cond.arrayOver_spec w3
  obtain ⟨m4, a4, k4, e4, -, f4, g4, n4⟩ := Cond.arrayOver_spec w4
  obtain ⟨m5, a5, k5, e5, -, f5, g5, n5⟩ := Cond.arrayOver_spec w5
  obtain ⟨fA, A0, A1, A2, A3, A4, A5⟩ : ∃ f : Nat → ClassId, f 0 = a0 ∧ f 1 = a1 ∧ f 2 = a2 ∧ f 3 = a3 ∧ f 4 = a4 ∧ f 5 = a5 := ⟨fun k => if k = 0 then a0 else if k = 1 then a1 else if k = 2 then a2 else if k = 3 then a3 else if k = 4 then a4 else a5, rfl, rfl, rfl, rfl, rfl, rfl⟩
  refine ⟨((dC, dI), fA, b, s.heap.size, L, xs), rfl, rfl, rfl, ⟨hKc, fun k q hq => ?_⟩, hX, hbl, Nat.le_refl _, ?_, ?_, fun w hw => ?_, fun w hw => ?_, fun x hx => ?_, fun C hC => ?_⟩
  · match k, hq with
    | 0, hq =>
      cases hq
      show ArrOfT s (fA 0) .int ∧ va_RA s (fA 0) .int
      rw [A0]
      exact ⟨fun n z => ⟨(fun k h => by cases h), k0, f0, m0, g0⟩, e0⟩
    | 1, hq =>
      cases hq
      show ArrOfT s (fA 1) .long ∧ va_RA s (fA 1) .long
      rw [A1]
      exact ⟨fun n z => ⟨(fun k h => by cases h), k1, f1, m1, g1⟩, e1⟩
    | 2, hq =>
      cases hq
      show ArrOfT s (fA 2) .boolean ∧ va_RA s (fA 2) .boolean
      rw [A2]
      exact ⟨fun n z => ⟨(fun k h => by cases h), k2, f2, m2, g2⟩, e2⟩
    | 3, hq =>
      cases hq
      show ArrOfT s (fA 3) (.object "ZnodeService$Server") ∧ va_RA s (fA 3) (.object "ZnodeService$Server")
      rw [A3]
      exact ⟨fun n z => ⟨(fun k h => by cases h), k3, f3, m3, g3⟩, k3, m3, f3, g3, e3, n3⟩
    | 4, hq =>
      cases hq
      show ArrOfT s (fA 4) (.object "ZnodeService$Session") ∧ va_RA s (fA 4) (.object "ZnodeService$Session")
      rw [A4]
      exact ⟨fun n z => ⟨(fun k h => by cases h), k4, f4, m4, g4⟩, k4, m4, f4, g4, e4, n4⟩
    | 5, hq =>
      cases hq
      show ArrOfT s (fA 5) (.object "ZnodeService$Entry") ∧ va_RA s (fA 5) (.object "ZnodeService$Entry")
      rw [A5]
      exact ⟨fun n z => ⟨(fun k h => by cases h), k5, f5, m5, g5⟩, k5, m5, f5, g5, e5, n5⟩
    | k + 6, hq => simp [q_ty] at hq
  · exact vx_Zqof (hts (.laysStatic "java/lang/Throwable" "UNASSIGNED_STACK" "[Ljava/lang/StackTraceElement;") (List.mem_of_getElem? (i := 231) (by decide +kernel))) (hts (.initialized "java/lang/Throwable") (List.mem_of_getElem? (i := 47) (by decide +kernel))) (hfl (.isRef (.static "java/lang/Throwable" "UNASSIGNED_STACK" "[Ljava/lang/StackTraceElement;")) (by decide +kernel)) (fun a h => Nat.not_le.mpr h)
  · exact vx_Zqof (hts (.laysStatic "java/lang/Throwable" "SUPPRESSED_SENTINEL" "Ljava/util/List;") (List.mem_of_getElem? (i := 233) (by decide +kernel))) (hts (.initialized "java/lang/Throwable") (List.mem_of_getElem? (i := 47) (by decide +kernel))) (hfl (.isRef (.static "java/lang/Throwable" "SUPPRESSED_SENTINEL" "Ljava/util/List;")) (by decide +kernel)) (fun a h => Nat.not_le.mpr h)
  · have hf := List.mem_filter.mp hw
    have h9 := hf.2
    simp only [q_fw, Bool.and_eq_true] at h9
    exact va_Nw.of h9.2 (hts w hf.1)
  · simp only [q_nest, List.mem_cons, List.not_mem_nil, or_false] at hw
    rcases hw with rfl | rfl | rfl | rfl | rfl
    · exact va_Nw.of rfl (hts _ (List.mem_of_getElem? (i := 97) (by decide +kernel)))
    · exact va_Nw.of rfl (hts _ (List.mem_of_getElem? (i := 135) (by decide +kernel)))
    · exact va_Nw.of rfl (hts _ (List.mem_of_getElem? (i := 381) (by decide +kernel)))
    · exact va_Nw.of rfl (hts _ (List.mem_of_getElem? (i := 384) (by decide +kernel)))
    · exact va_Nw.of rfl (hts _ (List.mem_of_getElem? (i := 423) (by decide +kernel)))
  · simp only [q_nc, List.mem_cons, List.not_mem_nil, or_false] at hx
    rcases hx with rfl | rfl | rfl | rfl | rfl | rfl | rfl | rfl | rfl | rfl <;> exact va_Nc.of (hfl _ (by decide +kernel))
  · simp only [q_ao, List.mem_cons, List.not_mem_nil, or_false] at hC
    rcases hC with rfl | rfl | rfl
    · exact va_AO.of w3
    · exact va_AO.of w4
    · exact va_AO.of w5
/-- from the entry, for every script of at most 2560 ints, the law comes to its end with true -/
theorem whole_start {p : Program} {e : Env} {s : State} {m : MethodId} {below : List Frame} {meth : Method} {c : Code} (l : Launch) (htr : l.stackTraces = false) {b L : Nat} {xs : Nat → Int32} (hL : L ≤ 2560) (C0 : lw_At p s m meth c b L xs) : W p l e room_1 s m #[Value.ref b] below meth c s.heap [] 0 0 (lw_Z below #[Value.ref b] s) (entryFrame m ([Value.ref b] : List Value).toArray 7) := by
  obtain ⟨hx, hb, hr, hml, hown, hts, hX, hbl, hlocks, hgv, hte, hnm⟩ := C0
  obtain ⟨G, g1, g2, g3, hK⟩ := whole_K hts hX hbl hgv
  have E0 := law_body (G := G) htr (by rw [g3]; exact hL)
  have hq := q_entry (G := G) (av := [.ref 0]) (n := 7) (List.forall_mem_cons.mpr ⟨rfl, fun _ h => nomatch h⟩) (by decide)
  have eb : [Value.ref 0].map (q_v G) = [Value.ref b] := by rw [← g1]; rfl
  rw [eb] at hq
  rw [lg_entry_eq]
  have K := E0 p e room_1 s m #[Value.ref b] below meth c s.heap [] 0 0 601024 7293034 _ ⟨hx, hb, hr, hml, hown, fun w hw => hts w (lw_gd hw), hlocks, hte, hnm, htr, hK⟩ hq ⟨by rw [g2]; rfl, fun k e2 hk => nomatch hk⟩ va_S.rf (by decide)
  intro T hT X
  obtain ⟨t, a1, o, b1, b2, b3⟩ := K T hT X
  refine ⟨t, a1, o, b1, b2, ?_⟩
  rcases b3 with ⟨⟨r, h', N', c1, c2, -⟩, Lc, c3, c4⟩ | ⟨q, -, E, ce, Lc, ⟨h', N', c2, -⟩, -⟩
  · have c5 : r = some (.int 1) := Sum.inl.inj c2
    subst c5
    refine ⟨c1, ⟨_, c1⟩, c3.2.1, ?_⟩
    exact State.sameButNew.drop_fresh (L := []) (J := Lc) c3.2.2 (fun x hx => by have := c4 x hx; unfold q_A at this; rw [g2] at this; exact this)
  · exact nomatch c2
set_option maxHeartbeats 4000000 in
theorem lw_walk (l : Launch) (htr : l.stackTraces = false) (b : Addr) (xs : List Int32) : MetFree l x (headSpec (Jvm.Cond.code x code maxLocals ret :: tables_1) room_1) (lw_P b xs) (fun _ _ _ _ _ => True) lw_Q := by
  refine MetFree.of_bodyS (code := code) (maxLocals := maxLocals) (ret := ret) (by decide) ?_ ?_
  · intro args s m h hn
    obtain ⟨meth, c, h1, h2, h3, h4, h5, h6, -, -⟩ := Cond.code_spec hn (atoms_spec (ws := Jvm.Cond.code x code maxLocals ret :: tables_1) h _ List.mem_cons_self)
    exact ⟨meth, c, h1, h2, h3, h4, h5, h6⟩
  · intro p e s m args below meth c s₁ B hml0 hP _
    obtain ⟨rfl, hx, hbd, hgv⟩ := hP
    obtain ⟨scr, harrAt, hlist, hof, hsmall⟩ := hx
    obtain ⟨hcb, hkn, -, -⟩ := State.arrayAt?_spec harrAt
    have hown : s.vm.findClass R_law = some m.cls := findClass_of_methodNamed B.named
    have hts0 : ∀ c ∈ (Jvm.Cond.code x code maxLocals ret :: tables_1), c.before #[Value.ref b] s = true := atoms_spec (ws := Jvm.Cond.code x code maxLocals ret :: tables_1) B.pre
    have hts : ∀ w ∈ lw_tbl, w.before #[Value.ref b] s = true := k2_hts_sels lw_privs (fun w hw => hts0 w (List.mem_cons_of_mem _ hw)) lw_privs_ok
    have hml : c.maxLocals = 7 := B.maxLocals_eq (hts0 _ List.mem_cons_self)
    have hte : c.exceptionTable.toList = [] := by
      obtain ⟨meth2, c2, q1, q2, -, -, -, -, q7, -⟩ := Cond.code_spec B.named (hts0 _ List.mem_cons_self)
      have e1 : meth2 = meth := Option.some.inj (q1.symm.trans B.method)
      subst e1
      have e2 : c2 = c := Option.some.inj (q2.symm.trans (Stand.of_body B).code)
      subst e2
      have h9 := Array.isEmpty_iff.mp q7
      rw [h9]
    have X₀ : Stand p l e room_1 s m #[Value.ref b] below meth c s₁ [] 0 0 := Stand.of_body B
    have hh0 : s₁.heap = s.heap := by rw [B.state]; rfl
    have hsz : scr.slots.size = xs.length := by rw [← Array.length_toList, hlist, List.length_map]
    have hval : ∀ j : Nat, j < xs.length → scr.slots[j]? = some (.int (xs.getD j 0)) := fun j hj => by
      rw [← Array.getElem?_toList, hlist]
      simp [hj]
    have hbl : b < s.heap.size := (Array.getElem?_eq_some_iff.mp hcb).1
    have hX : va_X b xs.length (fun j => xs.getD j 0) s s.heap := ⟨scr, hcb, hof, hkn, hsz, hval⟩
    have K : W p l e room_1 s m #[Value.ref b] below meth c s₁.heap [] 0 0 (lw_Z below #[Value.ref b] s) (entryFrame m ([Value.ref b] : List Value).toArray 7) := by
      rw [hh0]
      exact whole_start l htr hbd ⟨B.exec, B.bytes, B.returns, hml, hown, hts, hX, hbl, B.notSynchronized, hgv, hte, (name_of_methodNamed B.named B.method).1⟩
    obtain ⟨t, a1, o, b1, b2, b3⟩ := K s₁ rfl X₀
    exact ⟨t, o, a1, b1, b2, b3⟩
theorem lw_pre_spec {args : Array Value} {s : State} (h : (Jvm.Cond.and given_1 narrow_1).before args s = true) (hr : rest_1_c.before args s = true) : ∃ (b : Addr) (xs : List Int32), lw_P b xs args s := by
  have hs := flat_of_before _ h
  have hq := flat_of_before _ hr
  have hc : (Cond.count 1).before args s = true := hs _ (by decide +kernel)
  have harr : (Cond.arrayOf (.arg 0) .int).before args s = true := hs _ (by decide +kernel)
  have hle : (Cond.le (.length (.arg 0)) (.int 2560)).before args s = true := hs _ (by decide +kernel)
  have hlen : (Cond.isInt (.length (.arg 0))).before args s = true := hq _ (by decide +kernel)
  have hall : (Cond.all (.arg 0) (.isInt (.elem (.arg 0) (.index 0)))).before args s = true := hq _ (by decide +kernel)
  obtain ⟨b, xs, hb, hx⟩ := State.ints_of_pre rfl harr hlen hall
  have hsm : xs.length < 2 ^ 31 := hx.choose_spec.2.2.2
  have hev : (Term.length (.arg 0)).eval args s none [] s = some (.int xs.length.toInt32) := hx.length_eval hb
  have hv := Cond.le_ints hev (show (Term.int 2560).eval args s none [] s = some (.int 2560) from rfl)
  have hd : xs.length.toInt32 ≤ 2560 := by
    simpa [Cond.before, Cond.holds, hv] using hle
  have hN : xs.length ≤ 2560 := (Int32.ofNat_le_ofNat hsm (by decide)).mp (show Int32.ofNat xs.length ≤ Int32.ofNat 2560 from hd)
  exact ⟨b, xs, Cond.one_arg hc (show args[0]? = some (.ref b) from hb), hx, hN, h⟩
theorem lw_comes (l : Launch) (htr : l.stackTraces = false) : Comes l x (Jvm.Cond.code x code maxLocals ret :: tables_1) room_1 (fun tb e args s => Calls_1 tb e args s ∧ rest_1 tb e args s ∧ Pre_1 tb e args s)
    (fun _ _ args s o t => lw_Q args s o t) := by
  intro p e ha hc hk s m args below hf hfit hheap happ hpre
  obtain ⟨b, xs, hP⟩ := lw_pre_spec hpre.2.2 hpre.2.1
  obtain ⟨k, o, h1, h2, h3, hQ⟩ := lw_walk l htr b xs p e ha hc hk s m args below hf ((Spec.applies_iff_loose hf).mp happ).1 hP trivial
  exact ⟨k, o, h1, h2, h3, hQ⟩
theorem lw_frame {s t : State} {o : Outcome} {args : Array Value} (h : Framed s o t [] 601024 7293034) :
    Framed s o t (fieldLocs frame_1_writes args s ++ arrayLocs frame_1_arrays args s ++ staticLocs frame_1_statics s) 601024 7293034 := h
theorem lw_limb (L : Cond) (hL : ∀ (args : Array Value) (s t : State), L.after args s (.returned (some (.int 1))) t = true) :
    ArmFor flags0 classFile x code maxLocals ret World_1 tables_1 room_1 Calls_1 rest_1 Pre_1
      (fun tb e a s o t => postC L tb e a s o t ∧ Framed s o t (fieldLocs frame_1_writes a s ++ arrayLocs frame_1_arrays a s ++ staticLocs frame_1_statics s) 601024 7293034) := by
  intro l hfl _ _ p e ha hc hk s m args below hf hfit hheap happ hpre
  have htr : l.stackTraces = false := by unfold Launch.stackTraces; rw [hfl]; decide
  obtain ⟨k, o, h1, h2, h3, rfl, hF⟩ := lw_comes l htr p e ha hc hk s m args below hf hfit hheap happ hpre
  exact ⟨k, _, h1, h2, h3, hL args s _, lw_frame hF⟩
theorem i_vc : Claimed_1_1 ∧ Claimed_1_2 := ⟨lw_limb limb_1_1 (fun args s t => by simp [limb_1_1, Cond.after, Cond.holds, Cond.value]), lw_limb limb_1_2 (fun args s t => Cond.after_iff.mpr (by
  first | (rw [show limb_1_2 = Cond.eq .result (.int 1) from rfl, Cond.eq_ints (x := 1) (y := 1) rfl rfl]; simp; done) | (simp [limb_1_2, Cond.value, Term.eval]; done)))⟩
