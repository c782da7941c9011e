/-! THE CLAIM OUT OF ONE WALK OF THE LAW'S BODY. Your part is whole_start (and what it stands on); all else here is the same for every law, but numbers. -/
def R_law : String := "ShadowRoadsLaw"
def lw_P (b : Addr) (xs : List Int32) (args : Array Value) (s : State) : Prop := args = #[.ref b] ∧ s.IntsAt b xs ∧ xs.length ≤ 2560 ∧ (Jvm.Cond.and given_1 narrow_1).before args s = true
def lw_Q (_ : Array Value) (s : State) (o : Outcome) (t : State) : Prop := o = .returned (some (.int 1)) ∧ Framed s o t [] 600000 7302250
def lw_Z (below : List Frame) (a : Array Value) (s : State) : State → Prop := fun t => ∃ o, t.status = .running ∧ Ended t below o ∧ lw_Q a s o t
/-- the law's own end, with 1 on the stack, nothing written that was there before, its room as the claim has it -/
theorem lw_ret {p : Program} {l : Launch} {e : Env} {s : State} {m : MethodId} {below : List Frame} {meth : Method} {c : Code} {b : Nat} (hx : p.tables.exec = Jvm.exec) (hb : c.code = code) (hr : meth.sig.returnType = ret) (hlocks : meth.locks = false) {pc : Nat} {H : Heap} {ls : Array Slot} (hdg : decode code pc = .ok (.ireturn, 1)) : W p l e room_1 s m #[Value.ref b] below meth c H [] 600000 7302250 (lw_Z below #[Value.ref b] s) (F0 m pc ls [.int 1]) := by
  intro T hT X
  obtain ⟨fs, hret, hrun, hended, hW, hframe⟩ := X.leave (v := some (.int 1)) (hlocks := hlocks) (fun h => by rw [hr] at h; cases h)
  have hmeth' : T.vm.method? m = some meth := X.method'
  refine ⟨T.setFrames fs, ?_, .returned (some (.int 1)), hrun, hended, rfl, ⟨_, rfl⟩, hW, hframe⟩
  jvm_step X.here [X.here.top, hx, hb, hdg, hmeth', hr, ret, narrow_b1]
  (try refine ⟨rfl, ?_⟩); (try refine ⟨rfl, ?_⟩)
  first | (intro acts; rw [hret _ acts rfl rfl rfl]) | rw [hret _ _ rfl rfl rfl]
  exact Steps.refl _
/-- what holds at the law's entry: the machine, the code, the tables' words (any of lw_tbl by 'hts w (by decide +kernel)'), the script of L ints xs at the cell b, what the Statement gives of the start (any of its parts by flat_of_before) -/
def lw_At (p : Program) (s : State) (m : MethodId) (meth : Method) (c : Code) (b L : Nat) (xs : Nat → Int32) : Prop :=
  p.tables.exec = Jvm.exec ∧ c.code = code ∧ meth.sig.returnType = ret ∧ c.maxLocals = 4 ∧ s.vm.findClass R_law = some m.cls ∧ (∀ w ∈ lw_tbl, w.before #[Value.ref b] s = true) ∧ va_X b L xs s s.heap ∧ b < s.heap.size ∧ meth.locks = false ∧ (Jvm.Cond.and given_1 narrow_1).before #[Value.ref b] s = true
/-! ===== the law: its own rows; logs among other cells ===== -/
def xz (xs : Nat → Int32) (i : Int) : Int := (xs i.toNat).toInt
theorem xz_rng (xs : Nat → Int32) (i : Int) : -2147483648 ≤ xz xs i ∧ xz xs i < 2147483648 := iI_rng _
section ZLaw
variable {p : Program} {l : Launch} {e : Env} {R : Room} {s : State} {m : MethodId} {args : Array Value} {below : List Frame} {meth : Method} {c : Code} {D : va_G} {K : tyK} {A : Nat → Prop} {nL : Nat} {Q : State → Prop} {cells slots : Nat} {ws : va_W} {pc : Nat} {lv : List (Nat × Value)} {st : List Value} {cc : ByteArray} {own : String} {b L : Nat} {xs : Nat → Int32}
theorem z_sld (C : Zc p s m args c D K A nL cc own) (hX : va_X b L xs s s.heap) (hbl : b < s.heap.size) (hbA : ¬ A b) {i : Int} (hdg : decode cc pc = .ok (.iaload, 1)) (hi : 0 ≤ i ∧ i < L ∧ (L : Int) < 2147483648) (kk : Zw p l e R s m args below meth c D A nL Q cells slots ws (pc + 1) lv (vZ (xz xs i) :: st)) : Zw p l e R s m args below meth c D A nL Q cells slots ws pc lv (vZ i :: .ref b :: st) := fun H locs ls hP hD hS h => by
  refine va_sld C.1 C.2.1 hX hbl hbA hS (iI_in hi) hdg ?_
  have e : xs (iI i).toNatClampNeg = iI (xz xs i) := by unfold xz; rw [iI_clN (by omega), iI_of]
  rw [e]
  exact kk H locs ls hP hD hS h
theorem z_slen (C : Zc p s m args c D K A nL cc own) (hX : va_X b L xs s s.heap) (hbl : b < s.heap.size) (hbA : ¬ A b) (hdg : decode cc pc = .ok (.arraylength, 1)) (kk : Zw p l e R s m args below meth c D A nL Q cells slots ws (pc + 1) lv (vZ (L : Int) :: st)) : Zw p l e R s m args below meth c D A nL Q cells slots ws pc lv (.ref b :: st) := fun H locs ls hP hD hS h => by
  refine va_slen C.1 C.2.1 hX hbl hbA hS hdg ?_
  have e : Int32.ofNat L = iI (L : Int) := Int32.ofInt_eq_ofNat.symm
  rw [e]
  exact kk H locs ls hP hD hS h
theorem z_and31 (C : Zc p s m args c D K A nL cc own) {x : Int} (hdg : decode cc pc = .ok (.iand, 1)) (kk : ∀ j : Int, 0 ≤ j ∧ j < 32 → Zw p l e R s m args below meth c D A nL Q cells slots ws (pc + 1) lv (vZ j :: st)) : Zw p l e R s m args below meth c D A nL Q cells slots ws pc lv (vZ 31 :: vZ x :: st) := fun H locs ls hP hD hS h => by
  refine lv_iand C.1 C.2.1 hdg ?_
  obtain ⟨j, hj, e⟩ := pk_andE (iI x) (m := iI 31) 5 (by decide)
  rw [e, ← iI_nI]
  exact kk (j : Int) (by omega) H locs ls hP hD hS h
theorem z_eqj (C : Zc p s m args c D K A nL cc own) {x y : Int} {off : Int} (tgt : Nat) (hdg : decode cc pc = .ok (.if_icmp .eq off, 3)) (ht : (pc : Int) + off = (tgt : Int)) (hxy : x = y) (kt : Zw p l e R s m args below meth c D A nL Q cells slots ws tgt lv st) : Zw p l e R s m args below meth c D A nL Q cells slots ws pc lv (vZ y :: vZ x :: st) := fun H locs ls hP hD hS h => lv_icmp_eq C.1 C.2.1 hdg ht (fun _ => kt H locs ls hP hD hS h) (fun q => absurd (by rw [hxy]) q)
theorem z_lawret (hx : p.tables.exec = Jvm.exec) (hb : c.code = code) (hr : meth.sig.returnType = ret) (hlk : meth.locks = false) (hdg : decode code pc = .ok (.ireturn, 1)) (hc : cells ≤ 600000) (hs : slots ≤ 7302250) : Zw p l e room_1 s m #[Value.ref b] below meth c D (fun q => s.heap.size ≤ q) nL (lw_Z below #[Value.ref b] s) cells slots ws pc lv [vZ 1] := fun H locs ls hP hD hS h =>
  va_forget (fun q hq => hS.2.2 q hq) (W.widen hc hs (lw_ret hx hb hr hlk hdg))
end ZLaw
/-! a log among other cells; a new log -/
theorem pos_shift : ∀ (a : List Nat) (k t n : Nat), pos a k (t + n) = (pos a k t).map (fun u => u + n)
  | [], _, _, _ => rfl
  | i :: a, k, t, n => by
    show (bif Nat.beq i k then some (t + n) else pos a k (t + n + 1)) = (bif Nat.beq i k then some t else pos a k (t + 1)).map (fun u => u + n)
    cases hb : Nat.beq i k with
    | true => rfl
    | false =>
      show pos a k (t + n + 1) = (pos a k (t + 1)).map (fun u => u + n)
      rw [show t + n + 1 = t + 1 + n by omega]
      exact pos_shift a k (t + 1) n
theorem rep2_left (is1 is2 : List Nat) (w1 w2 : va_W) (hw : w1.length = is1.length) (hw2 : w2.length = is2.length) : ∀ (ws : va_W) (k : Nat), (∀ j, k ≤ j → j < k + ws.length → j ∉ is2) → rep2 (is1 ++ is2) (w1 ++ w2) k ws = rep2 is1 w1 k ws
  | [], k, _ => by
    show (w1 ++ w2).drop (is1 ++ is2).length = w1.drop is1.length
    rw [List.drop_eq_nil_of_le (by rw [List.length_append, List.length_append]; omega), List.drop_eq_nil_of_le (by omega)]
  | c :: ws, k, h => by
    show (match pos (is1 ++ is2) k 0 with | some t => (w1 ++ w2).getD t c | none => c) :: rep2 _ _ (k + 1) ws = (match pos is1 k 0 with | some t => w1.getD t c | none => c) :: rep2 is1 w1 (k + 1) ws
    rw [rep2_left is1 is2 w1 w2 hw hw2 ws (k + 1) (fun j a b => h j (by omega) (by simp at b ⊢; omega))]
    congr 1
    by_cases hk : k ∈ is1
    · rw [pos_app is1 _ k 0 hk]
      cases hp : pos is1 k 0 with
      | none => rfl
      | some t =>
        have := pos_bnd is1 k 0 t hp
        show (w1 ++ w2).getD t c = w1.getD t c
        rw [List.getD_eq_getElem?_getD, List.getD_eq_getElem?_getD, List.getElem?_append_left (by omega)]
    · rw [pos_app2 is1 _ k 0 hk, pos_no is1 k 0 hk, pos_no _ k _ (h k (Nat.le_refl _) (by simp))]
theorem rep2_right (is1 is2 : List Nat) (w1 w2 : va_W) (hw : w1.length = is1.length) (hw2 : w2.length = is2.length) : ∀ (ws : va_W) (k : Nat), (∀ j, k ≤ j → j < k + ws.length → j ∉ is1) → rep2 (is1 ++ is2) (w1 ++ w2) k ws = rep2 is2 w2 k ws
  | [], k, _ => by
    show (w1 ++ w2).drop (is1 ++ is2).length = w2.drop is2.length
    rw [List.drop_eq_nil_of_le (by rw [List.length_append, List.length_append]; omega), List.drop_eq_nil_of_le (by omega)]
  | c :: ws, k, h => by
    show (match pos (is1 ++ is2) k 0 with | some t => (w1 ++ w2).getD t c | none => c) :: rep2 _ _ (k + 1) ws = (match pos is2 k 0 with | some t => w2.getD t c | none => c) :: rep2 is2 w2 (k + 1) ws
    rw [rep2_right is1 is2 w1 w2 hw hw2 ws (k + 1) (fun j a b => h j (by omega) (by simp at b ⊢; omega)), pos_app2 is1 _ k 0 (h k (Nat.le_refl _) (by simp)), pos_shift]
    congr 1
    cases hp : pos is2 k 0 with
    | none => rfl
    | some t =>
      show (w1 ++ w2).getD (t + is1.length) c = w2.getD t c
      rw [List.getD_eq_getElem?_getD, List.getD_eq_getElem?_getD, List.getElem?_append_right (by omega), show t + is1.length - w1.length = t by omega]
theorem rep2_more (is : List Nat) (w1 w2 : va_W) (hw : w1.length = is.length) : ∀ (ws : va_W) (k : Nat), rep2 is (w1 ++ w2) k ws = rep2 is w1 k ws ++ w2
  | [], k => by
    show (w1 ++ w2).drop is.length = w1.drop is.length ++ w2
    rw [← hw, List.drop_left, List.drop_length]; rfl
  | c :: ws, k => by
    show (match pos is k 0 with | some t => (w1 ++ w2).getD t c | none => c) :: rep2 is (w1 ++ w2) (k + 1) ws = (match pos is k 0 with | some t => w1.getD t c | none => c) :: (rep2 is w1 (k + 1) ws ++ w2)
    rw [rep2_more is w1 w2 hw ws (k + 1)]
    congr 1
    cases hp : pos is k 0 with
    | none => rfl
    | some t =>
      have := pos_bnd is k 0 t hp
      show (w1 ++ w2).getD t c = w1.getD t c
      rw [List.getD_eq_getElem?_getD, List.getD_eq_getElem?_getD, List.getElem?_append_left (by omega)]
section PL
variable {K : tyK} {hs : Nat → Nat} {ag : Nat → Nat → Nat} {Lg : Nat → Bd} {is1 : List Nat} {pre w1 w2 : va_W}
theorem is4_mem {b i k : Nat} (h : k ∈ is4 b i) : b ≤ k ∧ k < b + (4 * i + 4) := by
  simp only [is4, List.mem_cons, List.not_mem_nil, or_false] at h
  omega
theorem pl_map {i n : Nat} (h : i < n) (hm : is1.map (fun k => pre[k]?) = w1.map some) {b : Nat} (hb : b = pre.length) : (is1 ++ is4 b i).map (fun k => (pre ++ lgW K hs ag Lg n)[k]?) = (w1 ++ wLo K (hs i) (ag i) (Lg i)).map some := by
  rw [List.map_append, List.map_append, is4_map K hs ag Lg h pre hb]
  congr 1
  rw [← hm]
  apply List.map_congr_left
  intro k hk
  rw [List.getElem?_append_left (blk_lt hm k hk)]
theorem pl_nd {i : Nat} (hm : is1.map (fun k => pre[k]?) = w1.map some) (hd : va_nd is1 = true) {b : Nat} (hb : b = pre.length) : va_nd (is1 ++ is4 b i) = true := by
  refine nd_app _ _ hd (is4_nd _ _) (fun x hx q => ?_)
  have := blk_lt hm x hx
  have := is4_mem q
  omega
theorem pl_rep {i n : Nat} (h : i < n) (S : Bd) (hm : is1.map (fun k => pre[k]?) = w1.map some) (hw : w2.length = w1.length) {b : Nat} (hb : b = pre.length) : rep (is1 ++ is4 b i) (pre ++ lgW K hs ag Lg n) (w2 ++ wLo K (hs i) (ag i) S) = rep is1 pre w2 ++ lgW K hs ag (va_up Lg i S) n := by
  have hi : w2.length = is1.length := by
    have := congrArg List.length hm
    simp at this
    omega
  have h4 : (wLo K (hs i) (ag i) S).length = (is4 b i).length := rfl
  unfold rep
  rw [rep2_app _ _ (by rw [List.length_append, List.length_append]; omega), Nat.zero_add, rep2_left _ _ _ _ hi h4 pre 0 (fun j _ q hj => by have := is4_mem hj; omega), rep2_right _ _ _ _ hi h4 _ pre.length (fun j q _ hj => by have := blk_lt hm j hj; omega), ← hb]
  rw [lgW_rep K hs ag Lg S n h]
theorem pl_rep0 {i n : Nat} (h : i < n) (hm : is1.map (fun k => pre[k]?) = w1.map some) (hw : w2.length = w1.length) {b : Nat} (hb : b = pre.length) : rep (is1 ++ is4 b i) (pre ++ lgW K hs ag Lg n) (w2 ++ wLo K (hs i) (ag i) (Lg i)) = rep is1 pre w2 ++ lgW K hs ag Lg n := by
  rw [pl_rep h (Lg i) hm hw hb]
  congr 1
  refine lgW_congr K n (fun j hj => ⟨rfl, rfl, ?_⟩)
  by_cases e : j = i
  · rw [e, va_up_self]
  · rw [va_up_ne _ _ e]
theorem pl_new {n : Nat} {hq : Nat} {aq : Nat → Nat} {Lo : Bd} (hm : is1.map (fun k => pre[k]?) = w1.map some) (hw : w2.length = w1.length) : rep is1 (pre ++ lgW K hs ag Lg n) (w2 ++ wLo K hq aq Lo) = rep is1 pre w2 ++ lgW K (va_up hs n hq) (va_up ag n aq) (va_up Lg n Lo) (n + 1) := by
  have hi : w2.length = is1.length := by
    have := congrArg List.length hm
    simp at this
    omega
  have e1 : rep is1 (pre ++ lgW K hs ag Lg n) (w2 ++ wLo K hq aq Lo) = rep is1 (pre ++ lgW K hs ag Lg n) w2 ++ wLo K hq aq Lo := rep2_more _ _ _ hi _ _
  rw [e1, rep_pre hm (by omega), List.append_assoc]
  congr 1
  show _ = lgW K (va_up hs n hq) (va_up ag n aq) (va_up Lg n Lo) n ++ wLo K (va_up hs n hq n) (va_up ag n aq n) (va_up Lg n Lo n)
  rw [va_up_self, va_up_self, va_up_self]
  congr 1
  exact lgW_congr K n (fun j hj => ⟨(va_up_ne _ _ (by omega)).symm, (va_up_ne _ _ (by omega)).symm, (va_up_ne _ _ (by omega)).symm⟩)
end PL
