/-! ===== base: ints as Int; the judgement Zw; its rows ===== -/
def iI (z : Int) : Int32 := Int32.ofInt z
abbrev vZ (z : Int) : Value := .int (iI z)
def ar (g : Int → Int) : Nat → Int32 := fun j => iI (g (j : Int))
def upz (g : Int → Int) (i v : Int) : Int → Int := fun j => if j = i then v else g j
def upf {α : Type} (g : Nat → α) (k : Nat) (x : α) : Nat → α := fun j => bif Nat.beq j k then x else g j
theorem upf_eq {α : Type} (g : Nat → α) (k : Nat) (x : α) (j : Nat) : upf g k x j = if j = k then x else g j := by
  unfold upf
  by_cases h : j = k
  · subst h; simp
  · have : Nat.beq j k = false := by
      cases hb : Nat.beq j k with
      | false => rfl
      | true => exact absurd (Nat.eq_of_beq_eq_true hb) h
    rw [this, if_neg h]; rfl
theorem upz_self (g : Int → Int) (i v : Int) : upz g i v i = v := if_pos rfl
theorem upz_ne (g : Int → Int) {i j : Int} (v : Int) (h : j ≠ i) : upz g i v j = g j := if_neg h
theorem iI_add (a b : Int) : iI a + iI b = iI (a + b) := (Int32.ofInt_add a b).symm
theorem iI_sub (a b : Int) : iI a - iI b = iI (a - b) := (Int32.ofInt_sub a b).symm
theorem iI_mul (a b : Int) : iI a * iI b = iI (a * b) := (Int32.ofInt_mul a b).symm
theorem iI_toInt {z : Int} (h : -2147483648 ≤ z ∧ z < 2147483648) : (iI z).toInt = z := Int32.toInt_ofInt_of_le (by omega) (by omega)
theorem iI_of (x : Int32) : iI x.toInt = x := Int32.ofInt_toInt x
theorem iI_lt {a b : Int} (ha : -2147483648 ≤ a ∧ a < 2147483648) (hb : -2147483648 ≤ b ∧ b < 2147483648) : iI a < iI b ↔ a < b := by
  rw [Int32.lt_iff_toInt_lt, iI_toInt ha, iI_toInt hb]
theorem iI_le {a b : Int} (ha : -2147483648 ≤ a ∧ a < 2147483648) (hb : -2147483648 ≤ b ∧ b < 2147483648) : iI a ≤ iI b ↔ a ≤ b := by
  rw [Int32.le_iff_toInt_le, iI_toInt ha, iI_toInt hb]
theorem iI_eq {a b : Int} (ha : -2147483648 ≤ a ∧ a < 2147483648) (hb : -2147483648 ≤ b ∧ b < 2147483648) : iI a = iI b ↔ a = b := by
  rw [← Int32.toInt_inj, iI_toInt ha, iI_toInt hb]
theorem iI_0 : iI 0 = 0 := by decide
theorem iI_clamp {z : Int} (h : 0 ≤ z ∧ z < 2147483648) : (((iI z).toNatClampNeg : Nat) : Int) = z := by
  show (((iI z).toInt.toNat : Nat) : Int) = z
  rw [iI_toInt (by omega)]
  omega
theorem iI_rng (x : Int32) : -2147483648 ≤ x.toInt ∧ x.toInt < 2147483648 := by
  have h1 := Int32.le_toInt x
  have h2 := Int32.toInt_lt x
  omega
theorem iI_in {z : Int} {n : Nat} (h : 0 ≤ z ∧ z < n ∧ (n : Int) < 2147483648) : vp_in (iI z) n := by
  have h1 := iI_clamp (z := z) (by omega)
  intro q
  rcases q with q | q
  · rw [← iI_0, iI_lt (by omega) (by omega)] at q
    omega
  · omega
theorem ar_at {g : Int → Int} {z : Int} (h : 0 ≤ z ∧ z < 2147483648) : ar g (iI z).toNatClampNeg = iI (g z) := by
  unfold ar
  rw [iI_clamp h]
theorem ar_up {g : Int → Int} {z v : Int} (h : 0 ≤ z ∧ z < 2147483648) : upd (ar g) (iI z).toNatClampNeg (iI v) = ar (upz g z v) := by
  funext j
  unfold upd ar upz
  have h1 := iI_clamp h
  by_cases hj : j = (iI z).toNatClampNeg
  · rw [if_pos hj, if_pos (by omega)]
  · rw [if_neg hj, if_neg (by omega)]
/-- locals: what is known of them, the newest first -/
def lh (ls : Array Slot) (nL : Nat) (lv : List (Nat × Value)) : Prop := ls.size = nL ∧ lv_wf ls ∧ ∀ (i : Nat) (v : Value), lv.lookup i = some v → v.category = 1 ∧ ls[i]? = some (.val v)
def lcn (lv : List (Nat × Value)) (n : Nat) : List (Nat × Value) := (List.range n).filterMap (fun i => (lv.lookup i).map (fun v => (i, v)))
theorem lcn_mem {lv : List (Nat × Value)} {n : Nat} {q : Nat × Value} : q ∈ lcn lv n ↔ q.1 < n ∧ lv.lookup q.1 = some q.2 := by
  unfold lcn
  rw [List.mem_filterMap]
  constructor
  · rintro ⟨i, h1, h2⟩
    rw [List.mem_range] at h1
    cases hl : lv.lookup i with
    | none => rw [hl] at h2; cases h2
    | some v =>
      rw [hl] at h2
      cases h2
      exact ⟨h1, hl⟩
  · rintro ⟨h1, h2⟩
    exact ⟨q.1, List.mem_range.mpr h1, by rw [h2]; rfl⟩
theorem lh_has {ls : Array Slot} {nL : Nat} {lv : List (Nat × Value)} (h : lh ls nL lv) : lv_has ls nL (lcn lv nL) :=
  ⟨h.1, h.2.1, fun q hq => (h.2.2 q.1 q.2 (lcn_mem.mp hq).2).2⟩
theorem lookup_cons_eq (i : Nat) (v : Value) (lv : List (Nat × Value)) : ((i, v) :: lv).lookup i = some v := by simp [List.lookup]
theorem lookup_cons_ne {i j : Nat} (v : Value) (lv : List (Nat × Value)) (h : j ≠ i) : ((i, v) :: lv).lookup j = lv.lookup j := by
  have hb : (j == i) = false := by simp [h]
  simp [List.lookup, hb]
theorem lh_store {ls ls2 : Array Slot} {nL i : Nat} {v : Value} {lv : List (Nat × Value)} (h : lh ls nL lv) (hv : v.category = 1) (h2 : lv_has ls2 nL ((i, v) :: (lcn lv nL).filter (fun q => !(q.1 == i) && !(q.1 + 1 == i && q.2.category == 2)))) : lh ls2 nL ((i, v) :: lv) := by
  refine ⟨h2.1, h2.2.1, fun j w hj => ?_⟩
  by_cases hji : j = i
  · subst hji
    rw [lookup_cons_eq] at hj
    cases hj
    exact ⟨hv, h2.2.2 (j, v) List.mem_cons_self⟩
  · rw [lookup_cons_ne v lv hji] at hj
    obtain ⟨hc, hl⟩ := h.2.2 j w hj
    have hlt : j < nL := by rw [← h.1]; exact (Array.getElem?_eq_some_iff.mp hl).1
    refine ⟨hc, h2.2.2 (j, w) (List.mem_cons_of_mem _ (List.mem_filter.mpr ⟨lcn_mem.mpr ⟨hlt, hj⟩, ?_⟩))⟩
    simp [hji, hc]
def lvs (lv : List (Nat × Value)) : List (Nat × Value) → Prop
  | [] => True
  | q :: r => lv.lookup q.1 = some q.2 ∧ lvs lv r
theorem lvs_look {lv : List (Nat × Value)} : ∀ {r : List (Nat × Value)}, lvs lv r → ∀ i v, r.lookup i = some v → lv.lookup i = some v
  | [], _, i, v, h => by cases h
  | q :: r, hs, i, v, h => by
    obtain ⟨a, b⟩ := q
    by_cases hi : i = a
    · subst hi
      rw [lookup_cons_eq] at h
      cases h
      exact hs.1
    · rw [lookup_cons_ne b r hi] at h
      exact lvs_look hs.2 i v h
theorem lh_sub {ls : Array Slot} {nL : Nat} {lv r : List (Nat × Value)} (h : lh ls nL lv) (hs : lvs lv r) : lh ls nL r :=
  ⟨h.1, h.2.1, fun i v hi => h.2.2 i v (lvs_look hs i v hi)⟩
theorem lookup_mem : ∀ {lv : List (Nat × Value)} {i : Nat} {v : Value}, lv.lookup i = some v → (i, v) ∈ lv
  | [], i, v, h => by cases h
  | q :: r, i, v, h => by
    obtain ⟨a, b⟩ := q
    by_cases hi : i = a
    · subst hi
      rw [lookup_cons_eq] at h
      cases h
      exact List.mem_cons_self
    · rw [lookup_cons_ne b r hi] at h
      exact List.mem_cons_of_mem _ (lookup_mem h)
theorem lh_of_has {ls : Array Slot} {nL : Nat} {lv : List (Nat × Value)} (h : lv_has ls nL lv) (hc : ∀ q ∈ lv, q.2.category = 1) : lh ls nL lv :=
  ⟨h.1, h.2.1, fun i v hi => ⟨hc _ (lookup_mem hi), h.2.2 (i, v) (lookup_mem hi)⟩⟩
theorem lv_args_cat : ∀ (vs : List Value) (i : Nat), (∀ v ∈ vs, v.category = 1) → ∀ q ∈ lv_args i vs, q.2.category = 1
  | [], i, _, q, h => by cases h
  | v :: vs, i, hv, q, h => by
    rcases List.mem_cons.mp h with e | e
    · rw [e]; exact hv v List.mem_cons_self
    · exact lv_args_cat vs _ (fun w hw => hv w (List.mem_cons_of_mem _ hw)) q e
/-- the slots of a heap, all together -/
def tot (H : Heap) : Nat := H.foldl (fun n c => n + c.slots.size) 0
theorem slots_tot {T : State} (h : T.slotsTrue = true) : T.slotsUsed = tot T.heap := by
  unfold State.slotsTrue at h
  exact eq_of_beq h
section ZK
variable {p : Program} {l : Launch} {e : Env} {R : Room} {s : State} {m : MethodId} {args : Array Value} {below : List Frame} {meth : Method} {c : Code} {H : Heap} {locs : List Loc} {cells slots : Nat} {Q : State → Prop} {T : State}
theorem stand_s (X : Stand p l e R s m args below meth c T locs cells slots) : s.slotsUsed = tot s.heap := by
  have h := X.room
  simp only [State.hasRoom, Bool.and_eq_true] at h
  exact slots_tot h.2
theorem stand_know (X : Stand p l e R s m args below meth c T locs cells slots) : T.heap.size ≤ s.heap.size + cells ∧ tot T.heap ≤ tot s.heap + slots := by
  refine ⟨X.heapSize, ?_⟩
  rw [← slots_tot X.book, ← stand_s X]
  exact X.used
theorem stand_tight {k n : Nat} (X : Stand p l e R s m args below meth c T locs cells slots) (h1 : T.heap.size ≤ s.heap.size + k) (h2 : tot T.heap ≤ tot s.heap + n) : Stand p l e R s m args below meth c T locs k n := by
  obtain ⟨a1, a2, a3, a4, a5, a6⟩ := X.same
  have hb := slots_tot X.book
  have hs := stand_s X
  have a4' : T.slotsUsed = s.slotsUsed + (((T.setVm s.vm).heap.toList.drop s.heap.size).map (·.slots.size)).sum := a4
  exact { X with same := ⟨a1, a2, h1, a4, by omega, a6⟩ }
theorem W.know {g : JFrame} (kk : H.size ≤ s.heap.size + cells → tot H ≤ tot s.heap + slots → W p l e R s m args below meth c H locs cells slots Q g) : W p l e R s m args below meth c H locs cells slots Q g := by
  intro T hT X
  obtain ⟨h1, h2⟩ := stand_know X
  rw [hT] at h1 h2
  exact kk h1 h2 T hT X
end ZK
/-- worlds: the cells at the places 'is' become those of w, further ones come behind -/
def pos : List Nat → Nat → Nat → Option Nat
  | [], _, _ => none
  | i :: is, k, t => bif Nat.beq i k then some t else pos is k (t + 1)
theorem pos_some : ∀ (is : List Nat) (k t u : Nat), pos is k t = some u → t ≤ u ∧ is[u - t]? = some k
  | [], k, t, u, h => by cases h
  | i :: is, k, t, u, h => by
    unfold pos at h
    cases hb : Nat.beq i k with
    | true =>
      rw [hb] at h
      cases h
      rw [Nat.eq_of_beq_eq_true hb]
      exact ⟨Nat.le_refl _, by simp⟩
    | false =>
      rw [hb] at h
      obtain ⟨h1, h2⟩ := pos_some is k (t + 1) u h
      refine ⟨by omega, ?_⟩
      rw [show u - t = (u - (t + 1)) + 1 by omega, List.getElem?_cons_succ]
      exact h2
theorem pos_none : ∀ (is : List Nat) (k t : Nat), pos is k t = none → k ∉ is
  | [], k, t, _ => List.not_mem_nil
  | i :: is, k, t, h => by
    unfold pos at h
    cases hb : Nat.beq i k with
    | true => rw [hb] at h; cases h
    | false =>
      rw [hb] at h
      intro hm
      rcases List.mem_cons.mp hm with e | e
      · rw [e, Nat.beq_refl] at hb; cases hb
      · exact pos_none is k (t + 1) h e
def rep2 (is : List Nat) (w : va_W) : Nat → va_W → va_W
  | _, [] => w.drop is.length
  | k, c :: ws => (match pos is k 0 with
    | some t => w.getD t c
    | none => c) :: rep2 is w (k + 1) ws
def rep (is : List Nat) (ws w : va_W) : va_W := rep2 is w 0 ws
theorem rep2_get (is : List Nat) (w : va_W) (hl : is.length ≤ w.length) : ∀ (ws : va_W) (k j : Nat) (q : Nat × va_E), (rep2 is w k ws)[j]? = some q → (∃ t, t < is.length ∧ is[t]? = some (k + j) ∧ w[t]? = some q) ∨ (k + j ∉ is ∧ ws[j]? = some q) ∨ (ws.length ≤ j ∧ w[is.length + (j - ws.length)]? = some q)
  | [], k, j, q, h => by
    rw [show rep2 is w k [] = w.drop is.length from rfl, List.getElem?_drop] at h
    exact Or.inr (Or.inr ⟨Nat.zero_le _, by simpa using h⟩)
  | c :: ws, k, 0, q, h => by
    rw [show rep2 is w k (c :: ws) = (match pos is k 0 with | some t => w.getD t c | none => c) :: rep2 is w (k + 1) ws from rfl, List.getElem?_cons_zero] at h
    cases hp : pos is k 0 with
    | none =>
      rw [hp] at h
      exact Or.inr (Or.inl ⟨pos_none is k 0 hp, by simpa using h⟩)
    | some t =>
      rw [hp] at h
      obtain ⟨h1, h2⟩ := pos_some is k 0 t hp
      have h3 : is[t]? = some k := by simpa using h2
      have h4 : t < is.length := (List.getElem?_eq_some_iff.mp h3).1
      refine Or.inl ⟨t, h4, h3, ?_⟩
      have h5 : some (w.getD t c) = some q := h
      rw [← h5, List.getD_eq_getElem?_getD, List.getElem?_eq_getElem (by omega)]
      rfl
  | c :: ws, k, j + 1, q, h => by
    rw [show rep2 is w k (c :: ws) = (match pos is k 0 with | some t => w.getD t c | none => c) :: rep2 is w (k + 1) ws from rfl, List.getElem?_cons_succ] at h
    rcases rep2_get is w hl ws (k + 1) j q h with ⟨t, h1, h2, h3⟩ | ⟨h1, h2⟩ | ⟨h1, h2⟩
    · exact Or.inl ⟨t, h1, by rw [h2]; congr 1; omega, h3⟩
    · exact Or.inr (Or.inl ⟨by rw [show k + (j + 1) = k + 1 + j by omega]; exact h1, by simpa using h2⟩)
    · exact Or.inr (Or.inr ⟨by simpa using h1, by rw [List.length_cons, show j + 1 - (ws.length + 1) = j - ws.length by omega]; exact h2⟩)
theorem rep_get (is : List Nat) (ws w : va_W) (_h : ∀ i ∈ is, i < ws.length) (hl : is.length ≤ w.length) (k : Nat) (q : Nat × va_E) (h : (rep is ws w)[k]? = some q) : (∃ t, t < is.length ∧ is[t]? = some k ∧ w[t]? = some q) ∨ (k ∉ is ∧ ws[k]? = some q) ∨ (ws.length ≤ k ∧ w[is.length + (k - ws.length)]? = some q) := by
  have h1 := rep2_get is w hl ws 0 k q h
  rwa [Nat.zero_add] at h1
theorem map_place {ws wc : va_W} {is : List Nat} (hC : is.map (fun i => ws[i]?) = wc.map some) {t : Nat} {q : Nat × va_E} (h : wc[t]? = some q) : ∃ i, is[t]? = some i ∧ ws[i]? = some q := by
  have h1 : (is.map (fun i => ws[i]?))[t]? = some (some q) := by rw [hC, List.getElem?_map, h]; rfl
  rw [List.getElem?_map] at h1
  cases hi : is[t]? with
  | none => rw [hi] at h1; cases h1
  | some i => rw [hi] at h1; exact ⟨i, rfl, Option.some.inj h1⟩
theorem map_len {ws wc : va_W} {is : List Nat} (hC : is.map (fun i => ws[i]?) = wc.map some) : is.length = wc.length := by
  have := congrArg List.length hC
  simpa using this
theorem map_lt {ws wc : va_W} {is : List Nat} (hC : is.map (fun i => ws[i]?) = wc.map some) : ∀ i ∈ is, i < ws.length := by
  intro i hi
  obtain ⟨t, ht⟩ := List.getElem?_of_mem hi
  have hlt : t < wc.length := by rw [← map_len hC]; exact (List.getElem?_eq_some_iff.mp ht).1
  obtain ⟨j, h1, h2⟩ := map_place hC (List.getElem?_eq_getElem hlt)
  rw [ht] at h1
  cases h1
  exact (List.getElem?_eq_some_iff.mp h2).1
theorem rep_join {A0 : Nat → Prop} {D : va_G} {cl : List vw_C} {ws wc w1 : va_W} {H H1 : Heap} {is : List Nat} (hP : va_P D cl ws H) (hD : va_D A0 ws) (hC : is.map (fun i => ws[i]?) = wc.map some) (hl : wc.length ≤ w1.length)
    (hk : ∀ q : Nat, q < H.size → ¬ va_A wc H.size q → H1[q]? = H[q]?) (hF : ∀ q, va_A wc H.size q → A0 q) (hP1 : va_P D cl w1 H1) (hD1 : va_D (va_A wc H.size) w1) : va_P D cl (rep is ws w1) H1 ∧ va_D A0 (rep is ws w1) := by
  have get := rep_get is ws w1 (map_lt hC) (by rw [map_len hC]; exact hl)
  have apart : ∀ (k : Nat) (q : Nat × va_E), k ∉ is → ws[k]? = some q → q.1 < H.size ∧ ¬ va_A wc H.size q.1 := by
    intro k q hk1 hq
    have hlt := (hP k q hq).lt
    refine ⟨hlt, fun h => ?_⟩
    rcases h with ⟨k2, e, h⟩ | h
    · obtain ⟨j, h3, h4⟩ := map_place hC h
      have hij := hD.1 k j q (q.1, e) hq h4 rfl
      subst hij
      exact hk1 (List.mem_of_getElem? h3)
    · omega
  refine ⟨fun k q hq => ?_, fun i j x y hx hy hxy => ?_, fun k q hq => ?_⟩
  · rcases get k q hq with ⟨t, h1, h2, h3⟩ | ⟨h1, h2⟩ | ⟨h1, h2⟩
    · exact hP1 _ q h3
    · exact (hP k q h2).kept (hk q.1 (apart k q h1 h2).1 (apart k q h1 h2).2)
    · exact hP1 _ q h2
  · rcases get i x hx with ⟨t, h1, h2, h3⟩ | ⟨h1, h2⟩ | ⟨h1, h2⟩ <;> rcases get j y hy with ⟨u, g1, g2, g3⟩ | ⟨g1, g2⟩ | ⟨g1, g2⟩
    · have := hD1.1 _ _ x y h3 g3 hxy
      subst this
      rw [h2] at g2
      exact Option.some.inj g2
    · exact absurd (hxy ▸ hD1.2 _ x h3) (apart j y g1 g2).2
    · have := hD1.1 _ _ x y h3 g2 hxy
      omega
    · exact absurd (hxy ▸ hD1.2 _ y g3) (apart i x h1 h2).2
    · exact hD.1 i j x y h2 g2 hxy
    · exact absurd (hxy ▸ hD1.2 _ y g2) (apart i x h1 h2).2
    · have := hD1.1 _ _ x y h2 g3 hxy
      omega
    · exact absurd (hxy ▸ hD1.2 _ x h2) (apart j y g1 g2).2
    · have := hD1.1 _ _ x y h2 g2 hxy
      omega
  · rcases get k q hq with ⟨t, h1, h2, h3⟩ | ⟨h1, h2⟩ | ⟨h1, h2⟩
    · exact hF _ (hD1.2 _ q h3)
    · exact hD.2 k q h2
    · exact hF _ (hD1.2 _ q h2)
