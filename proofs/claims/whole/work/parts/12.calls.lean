/-! ===== contracts over worlds: Mz; returns; calls ===== -/
def Qz (D : va_G) (w : va_W) (post : Option Value → va_W → Nat → Nat → Prop) (sz : Nat) : Array Value → State → Outcome → State → Prop := fun _ st oc t =>
  (∃ (r : Option Value) (w2 : va_W) (gc gs : Nat), oc = .returned r ∧ post r w2 gc gs ∧ w.length ≤ w2.length ∧ va_P D vwCl w2 t.heap ∧ va_D (va_A w sz) w2 ∧ t.heap.size ≤ st.heap.size + gc ∧ tot t.heap ≤ tot st.heap + gs) ∧ va_F (va_A w sz) st t
def Pz (D : va_G) (K : tyK) (av : List Value) (w : va_W) (sz : Nat) : Array Value → State → Prop := va_Pc av (fun U => U.heap.size = sz ∧ va_P D vwCl w U.heap ∧ va_K D vwCl (ty3 K) U ∧ va_D (fun _ => True) w)
/-- a contract: y, called with av over the world w, comes back; what it answers, the world then, the growth of the heap: post -/
def Mz (l : Launch) (y : MethodName) (cc : ByteArray) (nL : Nat) (ret : Option FieldType) (fr lo mc ms : Nat) (D : va_G) (K : tyK) (av : List Value) (w : va_W) (post : Option Value → va_W → Nat → Nat → Prop) : Prop :=
  ∀ sz : Nat, Met l y (Cond.code y cc nL ret :: wU) { frames := fr, cells := mc, slots := ms, locals := lo } (Pz D K av w sz) (Qz D w post sz) mc ms (va_A w sz)
theorem Pz_blind {D : va_G} {K : tyK} {av : List Value} {w : va_W} {sz : Nat} : FrameBlind (Pz D K av w sz) := fun a U g mk q => by
  obtain ⟨q0, q1, qP, qK, qD⟩ := q
  exact ⟨q0, q1, qP, va_K.moved (u := U) (U := U.calling g mk a) (Vm.Alike.refl U.vm) qK, qD⟩
theorem lg_len : ∀ (av : List Value), (∀ v ∈ av, v.category = 1) → (lg_sl av).length = av.length
  | [], _ => rfl
  | v :: av, h => by
    have h1 := lg_len av (fun w hw => h w (List.mem_cons_of_mem _ hw))
    have h2 := h v List.mem_cons_self
    simp only [lg_sl, List.flatMap_cons, List.length_append, List.length_cons] at h1 ⊢
    rw [if_neg (by omega)]
    simp only [List.length_cons, List.length_nil]
    omega
/-- a body's own end, and its names -/
def Ze (s : State) (args : Array Value) (below : List Frame) (meth : Method) (A : Nat → Prop) (Q : State → Prop) (D : va_G) (w : va_W) (post : Option Value → va_W → Nat → Nat → Prop) (ret : Option FieldType) (mc ms : Nat) (nm : String) : Prop :=
  A = va_A w s.heap.size ∧ Q = MQ below (Qz D w post s.heap.size) args s mc ms (va_A w s.heap.size) ∧ meth.sig.returnType = ret ∧ meth.locks = false ∧ meth.name = nm
theorem cat_all {av : List Value} (h : (av.map fun v => v.category) = List.replicate av.length 1) : ∀ v ∈ av, v.category = 1 := by
  intro v hv
  have h1 : v.category ∈ (av.map fun v => v.category) := List.mem_map.mpr ⟨v, hv, rfl⟩
  rw [h] at h1
  exact List.eq_of_mem_replicate h1
theorem Mz.ofZ {l : Launch} {y : MethodName} {cc : ByteArray} {nL : Nat} {ret : Option FieldType} {fr lo mc ms : Nat} {D : va_G} {K : tyK} {av : List Value} {w : va_W} {post : Option Value → va_W → Nat → Nat → Prop}
    (hy : plainName y.cls = true) (hav : (av.map fun v => v.category) = List.replicate av.length 1) (hnL : av.length ≤ nL)
    (body : ∀ (p : Program) (e : Env) (R : Room) (s : State) (m : MethodId) (args : Array Value) (below : List Frame) (meth : Method) (c : Code) (A : Nat → Prop) (Q : State → Prop), Zc p s m args c D K A nL cc y.cls → Ze s args below meth A Q D w post ret mc ms y.name → R.frames = fr → R.cells = mc → R.slots = ms → R.locals = lo → Zw p l e R s m args below meth c D A nL Q 0 0 w 0 (lv_args 0 av) []) : Mz l y cc nL ret fr lo mc ms D K av w post := by
  intro sz
  have hav := cat_all hav
  refine Met.ofW (cc := cc) (maxL := nL) (ret := ret) hy rfl ?_
  intro p e s m args below meth c s₁ B hml hv
  obtain ⟨rfl, hsz, hP, hK, hD0⟩ := hv
  subst hsz
  have hts := atoms_spec (ws := Cond.code y cc nL ret :: wU) B.pre
  have hl := lv_entry av (n := nL) (by rw [lg_len av hav]; exact hnL)
  rw [lg_entry_eq]
  exact body p e _ s m av.toArray below meth c _ _ ⟨B.exec, B.bytes, hml, findClass_of_methodNamed B.named, fun w h => hts w (List.mem_cons_of_mem _ h), hK, fun q h => Or.inr h⟩ ⟨rfl, rfl, B.returns, B.notSynchronized, (name_of_methodNamed B.named B.method).1⟩ rfl rfl rfl rfl s.heap [] _ hP (hD0.self (sz := s.heap.size)) va_S.rf (lh_of_has hl (lv_args_cat av 0 hav))
section ZRet
variable {p : Program} {l : Launch} {e : Env} {R : Room} {s : State} {m : MethodId} {args : Array Value} {below : List Frame} {meth : Method} {c : Code} {D : va_G} {K : tyK} {A : Nat → Prop} {Q : State → Prop} {nL : Nat} {cells slots : Nat} {ws : va_W} {pc : Nat} {lv : List (Nat × Value)} {cc : ByteArray} {own nm : String} {w : va_W} {post : Option Value → va_W → Nat → Nat → Prop} {mc ms : Nat}
theorem z_vret (C : Zc p s m args c D K A nL cc own) (E : Ze s args below meth A Q D w post none mc ms nm) (hdg : decode cc pc = .ok (.return_, 1)) (hc : cells ≤ mc) (hs : slots ≤ ms) (hl : w.length ≤ ws.length) (hp : post none ws cells slots) : Zw p l e R s m args below meth c D A nL Q cells slots ws pc lv [] := by
  obtain ⟨rfl, rfl, hr, hlk, -⟩ := E
  exact fun H locs ls hP hD hS h => W.know fun k1 k2 => W.widen hc hs (W.vret C.1 C.2.1 hr (fun t ht hW => ⟨⟨none, ws, cells, slots, rfl, hp, hl, by rw [ht]; exact hP, hD, by rw [ht]; exact k1, by rw [ht]; exact k2⟩, hS.F ht⟩) hS.2.2 hdg hlk)
theorem z_iret (C : Zc p s m args c D K A nL cc own) (E : Ze s args below meth A Q D w post (some .int) mc ms nm) {v : Int32} (hdg : decode cc pc = .ok (.ireturn, 1)) (hc : cells ≤ mc) (hs : slots ≤ ms) (hl : w.length ≤ ws.length) (hp : post (some (.int v)) ws cells slots) : Zw p l e R s m args below meth c D A nL Q cells slots ws pc lv [.int v] := by
  obtain ⟨rfl, rfl, hr, hlk, -⟩ := E
  exact fun H locs ls hP hD hS h => W.know fun k1 k2 => W.widen hc hs (W.iret C.1 C.2.1 hr (fun t ht hW => ⟨⟨some (.int v), ws, cells, slots, rfl, hp, hl, by rw [ht]; exact hP, hD, by rw [ht]; exact k1, by rw [ht]; exact k2⟩, hS.F ht⟩) hS.2.2 hdg hlk)
theorem z_zret (C : Zc p s m args c D K A nL cc own) (E : Ze s args below meth A Q D w post (some .boolean) mc ms nm) {v : Int} (hdg : decode cc pc = .ok (.ireturn, 1)) (hv : v = 0 ∨ v = 1) (hc : cells ≤ mc) (hs : slots ≤ ms) (hl : w.length ≤ ws.length) (hp : post (some (vZ v)) ws cells slots) : Zw p l e R s m args below meth c D A nL Q cells slots ws pc lv [vZ v] := by
  obtain ⟨rfl, rfl, hr, hlk, -⟩ := E
  exact fun H locs ls hP hD hS h => W.know fun k1 k2 => W.widen hc hs (W.zret C.1 C.2.1 hr (by rcases hv with rfl | rfl <;> decide) (fun t ht hW => ⟨⟨some (vZ v), ws, cells, slots, rfl, hp, hl, by rw [ht]; exact hP, hD, by rw [ht]; exact k1, by rw [ht]; exact k2⟩, hS.F ht⟩) hS.2.2 hdg hlk)
theorem z_aret (C : Zc p s m args c D K A nL cc own) {rt : FieldType} (E : Ze s args below meth A Q D w post (some rt) mc ms nm) (hrt : (∃ n, rt = .object n) ∨ ∃ t, rt = .array t) {v : Value} (hv : v = .null ∨ ∃ a, v = .ref a) (hdg : decode cc pc = .ok (.areturn, 1)) (hc : cells ≤ mc) (hs : slots ≤ ms) (hl : w.length ≤ ws.length) (hp : post (some v) ws cells slots) : Zw p l e R s m args below meth c D A nL Q cells slots ws pc lv [v] := by
  obtain ⟨rfl, rfl, hr, hlk, -⟩ := E
  exact fun H locs ls hP hD hS h => W.know fun k1 k2 => W.widen hc hs (W.aret C.1 C.2.1 hr hrt hv (fun t ht hW => ⟨⟨some v, ws, cells, slots, rfl, hp, hl, by rw [ht]; exact hP, hD, by rw [ht]; exact k1, by rw [ht]; exact k2⟩, hS.F ht⟩) hS.2.2 hdg hlk)
end ZRet
section ZCall
variable {p : Program} {l : Launch} {e : Env} {R : Room} {s : State} {m : MethodId} {args : Array Value} {below : List Frame} {meth : Method} {c : Code} {D : va_G} {K : tyK} {A : Nat → Prop} {nL : Nat} {Q : State → Prop} {cells slots : Nat} {ws : va_W} {pc : Nat} {lv : List (Nat × Value)} {st : List Value} {cc : ByteArray} {own : String} {w : va_W} {post : Option Value → va_W → Nat → Nat → Prop} {y : MethodName} {ccy : ByteArray} {nLy : Nat} {rety : Option FieldType} {fr lo mc ms idx : Nat} {As : List Value} {b : Nat}
theorem z_run {av : List Value} {st0 rest : List Value} (C : Zc p s m args c D K A nL cc own) (is : List Nat) (hC : is.map (fun i => ws[i]?) = w.map some)
    (hr : ∀ (H : Heap) (locs : List Loc) (ls : Array Slot), va_P D vwCl w H → va_D A ws → lh ls nL lv → va_Run p l e R s m args below meth c H locs cells slots mc ms (F0 m pc ls st0) rest (Qz D w post H.size av.toArray) (va_A w H.size))
    (kk : ∀ (r : Option Value) (w2 : va_W) (gc gs : Nat), post r w2 gc gs → Zw p l e R s m args below meth c D A nL Q (cells + gc) (slots + gs) (rep is ws w2) (pc + 3) lv (r.toList ++ rest)) : Zw p l e R s m args below meth c D A nL Q cells slots ws pc lv st0 := by
  intro H locs ls hP hD hS h T hT X
  have hPc : va_P D vwCl w H := fun k q hq => by
    obtain ⟨i, h1, h2⟩ := map_place hC hq
    exact hP i q h2
  have hFc := va_free (wc := w) hD hS C.2.2.2.2.2.2 is hC
  obtain ⟨k1, k2⟩ := stand_know X
  obtain ⟨v, st₀, t, T2, L, h0, X2, hL, e1, e2, ⟨⟨r, w2, gc, gs, hv, hp, hl, hP1, hD1, g1, g2⟩, hz, hk⟩, go⟩ := hr H locs ls hPc hD h T hT X
  cases hv
  rw [h0] at hz hk g1 g2
  rw [hT] at k1 k2
  obtain ⟨hPj, hDj⟩ := rep_join hP hD hC hl hk hFc hP1 hD1
  have X3 := stand_tight X2 (k := cells + gc) (n := slots + gs) (by rw [e1]; omega) (by rw [e1]; omega)
  obtain ⟨t2, a1, b1⟩ := kk v w2 gc gs hp T2.heap (locs ++ L) ls (by rw [e1]; exact hPj) hDj
    ⟨Nat.le_trans hS.1 (by rw [e1]; exact hz), fun q h1 h2 => by rw [e1, hk q (Nat.lt_of_lt_of_le h1 hS.1) (fun z => h2 (hFc q z))]; exact hS.2.1 q h1 h2, fun q hq => by
      rcases List.mem_append.mp hq with h | h
      · exact hS.2.2 q h
      · exact hFc _ (hL q h)⟩ h T2 rfl X3
  exact ⟨t2, go t2 a1, b1⟩
theorem gdV (h1 : Cond.methodLink own idx y ∈ wU) (h2 : Cond.instanceMethod y ∈ wU) (h3 : Cond.selects y.cls y y ∈ wU) (h4 : Cond.initialized y.cls ∈ wU) (h5 : Cond.code y ccy nLy rety ∈ wU) : GoodIn wU (wsV own idx y.cls y (Cond.code y ccy nLy rety :: wU)) := by
  intro q hq
  unfold wsV at hq
  simp only [List.cons_append, List.nil_append, List.mem_cons] at hq
  rcases hq with rfl | rfl | rfl | rfl | rfl | hq
  · exact gU _ h1
  · exact gU _ h2
  · exact gU _ h3
  · exact gU _ h4
  · exact gU _ h5
  · exact gU _ hq
theorem gdS (h1 : Cond.methodLink own idx y ∈ wU) (h2 : Cond.static y ∈ wU) (h4 : Cond.initialized y.cls ∈ wU) (h5 : Cond.code y ccy nLy rety ∈ wU) : GoodIn wU (va_wsS own idx y (Cond.code y ccy nLy rety :: wU)) := by
  intro q hq
  unfold va_wsS at hq
  simp only [List.cons_append, List.nil_append, List.mem_cons] at hq
  rcases hq with rfl | rfl | rfl | rfl | hq
  · exact gU _ h1
  · exact gU _ h2
  · exact gU _ h4
  · exact gU _ h5
  · exact gU _ hq
theorem gdI (h5 : Cond.code y ccy nLy rety ∈ wU) : GoodIn wU (Cond.code y ccy nLy rety :: wU) := by
  intro q hq
  rcases List.mem_cons.mp hq with rfl | hq
  · exact gU _ h5
  · exact gU _ hq
theorem z_callV (C : Zc p s m args c D K A nL cc own) (n : Nat) (hM : Mz l y ccy nLy rety fr lo mc ms D K (.ref b :: As) w post) (hG : GoodIn wU (wsV own idx y.cls y (Cond.code y ccy nLy rety :: wU)))
    (hd : y.cls ≠ "java/lang/invoke/MethodHandle" ∧ y.cls ≠ "java/lang/invoke/VarHandle" ∧ (parseMethodDescriptor y.desc).map (fun d => d.parameters.length) = some n) (hnn : As.length = n)
    (hR : fr + 1 ≤ R.frames ∧ 8 + (nLy + 11) + lo ≤ R.locals) (hf : cells + mc ≤ R.cells ∧ slots + ms ≤ R.slots) {rest : List Value} (hW : (rest.map fun v => v.category).sum ≤ 8)
    (is : List Nat) (hC : is.map (fun i => ws[i]?) = w.map some) (hn : va_nd is = true) {ci : Nat} {fs : List Value} {qc : vw_C} (q0 : w[0]? = some (b, .inr (ci, fs))) (hcl : vwCl[ci]? = some qc) (hq : qc.1 = y.cls) {st0 : List Value} (hst : st0 = As.reverse ++ .ref b :: rest) (hdg : decode cc pc = .ok (.invokevirtual idx, 3))
    (kk : ∀ (r : Option Value) (w2 : va_W) (gc gs : Nat), post r w2 gc gs → Zw p l e R s m args below meth c D A nL Q (cells + gc) (slots + gs) (rep is ws w2) (pc + 3) lv (r.toList ++ rest)) : Zw p l e R s m args below meth c D A nL Q cells slots ws pc lv st0 := by
  refine z_run (av := .ref b :: As) (mc := mc) (ms := ms) C is hC (fun H locs ls hP hD h => ?_) kk
  have hDc := hD.sub (ws' := w) is hn hC
  exact va_runV (As := As) (rest := rest) ⟨C.1, C.2.1, C.2.2.1, C.2.2.2.1, C.2.2.2.2.1⟩ (hM H.size) (cwV n C.2.2.2.2.1 hG rfl rfl rfl ⟨rfl, hd⟩ hR)
    ⟨Pz_blind, hq ▸ va_recv C.2.2.2.2.2.1 hP hcl q0, fun U hU hWm => ⟨rfl, by rw [hU], by rw [hU]; exact hP, va_K.moved hWm.alike C.2.2.2.2.2.1, hDc.weaken (fun _ _ _ _ => trivial)⟩⟩ rfl hnn h.1 hst (lv_room hW) hdg hf
theorem z_callS (C : Zc p s m args c D K A nL cc own) (n : Nat) (hM : Mz l y ccy nLy rety fr lo mc ms D K As w post) (hG : GoodIn wU (va_wsS own idx y (Cond.code y ccy nLy rety :: wU)))
    (hd : y.cls ≠ "java/lang/invoke/MethodHandle" ∧ y.cls ≠ "java/lang/invoke/VarHandle" ∧ (parseMethodDescriptor y.desc).map (fun d => d.parameters.length) = some n) (hnn : As.length = n)
    (hR : fr + 1 ≤ R.frames ∧ 8 + (nLy + 11) + lo ≤ R.locals) (hf : cells + mc ≤ R.cells ∧ slots + ms ≤ R.slots) {rest : List Value} (hW : (rest.map fun v => v.category).sum ≤ 8)
    (is : List Nat) (hC : is.map (fun i => ws[i]?) = w.map some) (hn : va_nd is = true) {st0 : List Value} (hst : st0 = As.reverse ++ rest) (hdg : decode cc pc = .ok (.invokestatic idx, 3))
    (kk : ∀ (r : Option Value) (w2 : va_W) (gc gs : Nat), post r w2 gc gs → Zw p l e R s m args below meth c D A nL Q (cells + gc) (slots + gs) (rep is ws w2) (pc + 3) lv (r.toList ++ rest)) : Zw p l e R s m args below meth c D A nL Q cells slots ws pc lv st0 := by
  refine z_run (av := As) (mc := mc) (ms := ms) C is hC (fun H locs ls hP hD h => ?_) kk
  have hDc := hD.sub (ws' := w) is hn hC
  exact va_runS (As := As) (rest := rest) ⟨C.1, C.2.1, C.2.2.1, C.2.2.2.1, C.2.2.2.2.1⟩ (hM H.size) (va_cwS n C.2.2.2.2.1 hG rfl rfl rfl hd hR)
    ⟨Pz_blind, fun U hU hWm => ⟨rfl, by rw [hU], by rw [hU]; exact hP, va_K.moved hWm.alike C.2.2.2.2.2.1, hDc.weaken (fun _ _ _ _ => trivial)⟩⟩ rfl hnn h.1 hst (lv_room hW) hdg hf
theorem z_callI (C : Zc p s m args c D K A nL cc own) (n : Nat) (hM : Mz l y ccy nLy none fr lo mc ms D K (.ref b :: As) w post) (h5 : Cond.code y ccy nLy none ∈ wU) (h4 : Cond.initialized y.cls ∈ wU) (h1 : Cond.methodLink own idx y ∈ wU) (h2 : Cond.instanceMethod y ∈ wU) (hnm : y.name = "<init>")
    (hd : y.cls ≠ "java/lang/invoke/MethodHandle" ∧ y.cls ≠ "java/lang/invoke/VarHandle" ∧ (parseMethodDescriptor y.desc).map (fun d => d.parameters.length) = some n) (hnn : As.length = n)
    (hR : fr + 1 ≤ R.frames ∧ 8 + (nLy + 11) + lo ≤ R.locals) (hf : cells + mc ≤ R.cells ∧ slots + ms ≤ R.slots) {rest : List Value} (hW : (rest.map fun v => v.category).sum ≤ 8)
    (is : List Nat) (hC : is.map (fun i => ws[i]?) = w.map some) (hn : va_nd is = true) {st0 : List Value} (hst : st0 = As.reverse ++ .ref b :: rest) (hdg : decode cc pc = .ok (.invokespecial idx, 3))
    (kk : ∀ (r : Option Value) (w2 : va_W) (gc gs : Nat), post r w2 gc gs → Zw p l e R s m args below meth c D A nL Q (cells + gc) (slots + gs) (rep is ws w2) (pc + 3) lv (r.toList ++ rest)) : Zw p l e R s m args below meth c D A nL Q cells slots ws pc lv st0 := by
  refine z_run (av := .ref b :: As) (mc := mc) (ms := ms) C is hC (fun H locs ls hP hD h => ?_) kk
  have hDc := hD.sub (ws' := w) is hn hC
  exact va_runI (As := As) (rest := rest) ⟨C.1, C.2.1, C.2.2.1, C.2.2.2.1, C.2.2.2.2.1⟩ (hM H.size) (cwI n C.2.2.2.2.1 (gdI h5) rfl rfl rfl (C.2.2.2.2.1 _ h4) (C.2.2.2.2.1 _ h1) (C.2.2.2.2.1 _ h2) hnm hd hR)
    ⟨Pz_blind, fun U hU hWm => ⟨rfl, by rw [hU], by rw [hU]; exact hP, va_K.moved hWm.alike C.2.2.2.2.2.1, hDc.weaken (fun _ _ _ _ => trivial)⟩⟩ rfl hnn h.1 hst (lv_room hW) hdg hf
/-- an object: its fields as the class says they begin -/
theorem z_new (C : Zc p s m args c D K A nL cc own) {cN : String} {T : u_T} {N ci : Nat} {ty0 : Nat → FieldType} (hin : ∀ w ∈ u_ws cN T N, w ∈ wU) (hty : ∀ k, k < N → parseFieldDescriptor (T k).2.2.1 = some (ty0 k)) (h1 : Cond.classLink own idx cN ∈ wU) (h2 : Cond.instantiable cN N ∈ wU) (h3 : Cond.initialized cN ∈ wU) (hc : vwCl[ci]? = some (cN, T, N)) {fs : List Value} (hfs : ∀ j, j < N → defaultValue (ty0 j) = vp_V fs j) (hcl : cells + 1 ≤ R.cells) (hsl : slots + N ≤ R.slots) (hdg : decode cc pc = .ok (.new idx, 3))
    (kk : ∀ q : Nat, Zw p l e R s m args below meth c D A nL Q (cells + 1) (slots + N) (ws ++ [(q, .inr (ci, fs))]) (pc + 3) lv (.ref q :: st)) : Zw p l e R s m args below meth c D A nL Q cells slots ws pc lv st := fun H locs ls hP hD hS h =>
  va_new C.1 C.2.1 C.2.2.2.2.1 hin ty0 hty C.2.2.2.1 (C.2.2.2.2.1 _ h1) (C.2.2.2.2.1 _ h2) (C.2.2.2.2.1 _ h3) C.2.2.2.2.2.1 hP hD hS C.2.2.2.2.2.2 hc hfs hcl hsl hdg (fun q H1 hP1 hD1 hS1 => kk q H1 locs ls hP1 hD1 hS1 h)
theorem z_objInit (C : Zc p s m args c D K A nL cc own) {a : Nat} {rest : List Value} (h1 : Cond.methodLink own idx Lib.objectInit ∈ wU) (h2 : Cond.instanceMethod Lib.objectInit ∈ wU) (h3 : Cond.code Lib.objectInit ⟨#[0xb1]⟩ 1 none ∈ wU) (hdg : decode cc pc = .ok (.invokespecial idx, 3)) (hf : 1 ≤ R.frames) (hlo : (rest.map fun v => v.category).sum + 12 ≤ R.locals)
    (kk : Zw p l e R s m args below meth c D A nL Q cells slots ws (pc + 3) lv rest) : Zw p l e R s m args below meth c D A nL Q cells slots ws pc lv (.ref a :: rest) := fun H locs ls hP hD hS h =>
  W.objInit C.1 C.2.1 C.2.2.2.1 (C.2.2.2.2.1 _ h1) (C.2.2.2.2.1 _ h2) (C.2.2.2.2.1 _ h3) rfl (by rw [C.2.2.1]; exact h.1) rfl hdg hf (by show 2 * 0 + _ + 12 ≤ _; omega) (kk H locs ls hP hD hS h)
theorem z_min (C : Zc p s m args c D K A nL cc own) {x z : Int} {rest : List Value} (h1 : Cond.methodLink own idx Lib.Math.min.name ∈ wU) (h2 : Cond.static Lib.Math.min.name ∈ wU) (h3 : Cond.initialized "java/lang/Math" ∈ wU) (h4 : Cond.code Lib.Math.min.name Lib.Math.min.code 2 (some .int) ∈ wU) (hdg : decode cc pc = .ok (.invokestatic idx, 3)) (hf : 1 ≤ R.frames) (hlo : (rest.map fun v => v.category).sum + 13 ≤ R.locals) (hc : cells ≤ R.cells) (hs : slots ≤ R.slots) (hx : -2147483648 ≤ x ∧ x < 2147483648) (hz : -2147483648 ≤ z ∧ z < 2147483648)
    (kk : Zw p l e R s m args below meth c D A nL Q cells slots ws (pc + 3) lv (vZ (min x z) :: rest)) : Zw p l e R s m args below meth c D A nL Q cells slots ws pc lv (vZ z :: vZ x :: rest) := fun H locs ls hP hD hS h => by
  refine va_mmin C.1 C.2.1 (by rw [C.2.2.1]; exact h.1.symm) C.2.2.2.1 (C.2.2.2.2.1 _ h1) (C.2.2.2.2.1 _ h2) (C.2.2.2.2.1 _ h3) (C.2.2.2.2.1 _ h4) hf hlo hc hs hdg ?_
  have e : (if iI z < iI x then iI z else iI x) = iI (min x z) := by
    by_cases hq : z < x
    · rw [if_pos ((iI_lt hz hx).mpr hq), Int.min_eq_right (by omega)]
    · rw [if_neg (fun q => hq ((iI_lt hz hx).mp q)), Int.min_eq_left (by omega)]
  rw [e]
  exact kk H locs ls hP hD hS h
def cpz (f g : Int → Int) (n : Int) : Int → Int := fun k => if k < n then f k else g k
theorem z_copy (C : Zc p s m args c D K A nL cc own) {a a0 n0 n1 : Nat} {f g : Int → Int} {n : Int} {rest : List Value} (h1 : Cond.methodLink own idx arraycopyName ∈ wU) (h2 : Cond.native arraycopyName ∈ wU) (h3 : Cond.static arraycopyName ∈ wU) (h4 : Cond.initialized "java/lang/System" ∈ wU) (q0 q1 : Nat) (ha0 : ws[q0]? = some (a0, .inl (K.1, n0, .inl (ar f)))) (ha1 : ws[q1]? = some (a, .inl (K.1, n1, .inl (ar g)))) (hn : 0 ≤ n ∧ n ≤ n0 ∧ n ≤ n1 ∧ n < 2147483648) (hf : 1 ≤ R.frames) (hlo : (rest.map fun v => v.category).sum + (nativeFrameWords "java/lang/System" "arraycopy" 5 + 11) ≤ R.locals) (hdg : decode cc pc = .ok (.invokestatic idx, 3))
    (kk : Zw p l e R s m args below meth c D A nL Q cells slots (ws.set q1 (a, .inl (K.1, n1, .inl (ar (cpz f g n))))) (pc + 3) lv rest) : Zw p l e R s m args below meth c D A nL Q cells slots ws pc lv (vZ n :: vZ 0 :: .ref a :: vZ 0 :: .ref a0 :: rest) := fun H locs ls hP hD hS h => by
  have z0 : (iI 0).toNatClampNeg = 0 := by have := iI_clamp (z := 0) (by omega); omega
  have zn : (((iI n).toNatClampNeg : Nat) : Int) = n := iI_clamp (by omega)
  have p0 : ¬ iI 0 < 0 := by rw [iI_0]; decide
  refine va_copyi C.1 C.2.1 (by rw [C.2.2.1]; exact h.1.symm) C.2.2.2.1 (C.2.2.2.2.1 _ h1) (C.2.2.2.2.1 _ h2) (C.2.2.2.2.1 _ h3) (C.2.2.2.2.1 _ h4) C.2.2.2.2.2.1 hP hD hS q0 q1 0 0 ha0 ha1 rfl rfl rfl p0 p0 ?_ (by rw [z0]; omega) (by rw [z0]; omega) (fun i _ => rfl) hf hlo hdg (fun H1 locs1 hP1 hD1 hS1 => ?_)
  · intro q
    rw [← iI_0, iI_lt (by omega) (by omega)] at q
    omega
  · have e : va_cpy (ar f) (ar g) (iI 0).toNatClampNeg (iI 0).toNatClampNeg (iI n).toNatClampNeg = ar (cpz f g n) := by
      funext k
      unfold va_cpy ar cpz
      rw [z0]
      by_cases hk : (k : Int) < n
      · rw [if_pos ⟨by omega, by omega⟩, if_pos hk]
        simp
      · rw [if_neg (by omega), if_neg hk]
    rw [e] at hP1 hD1
    exact kk H1 locs1 ls hP1 hD1 hS1 h
end ZCall
