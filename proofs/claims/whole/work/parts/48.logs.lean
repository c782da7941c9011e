/-! ===== the class's own object, its row of logs; rows for rows of objects; any number of logs at a world's end ===== -/
abbrev wSh (h : Nat) (x : Nat → Nat) : va_W := [(h, .inr (7, [.ref (x 0), .ref (x 1), .ref (x 2), .ref (x 3), .ref (x 4), .ref (x 5)]))]
abbrev wLA (K : tyK) (h : Nat) (f : Nat → Option Nat) : va_W := [(h, .inl (K.2.2, 16, .inr (.inr (.inr (.inr f)))))]
section ZQ
variable {p : Program} {l : Launch} {e : Env} {R : Room} {s : State} {m : MethodId} {args : Array Value} {below : List Frame} {meth : Method} {c : Code} {D : va_G} {K : tyK} {A : Nat → Prop} {nL : Nat} {Q : State → Prop} {cells slots : Nat} {ws : va_W} {pc : Nat} {lv : List (Nat × Value)} {st : List Value} {cc : ByteArray} {own : String}
theorem iI_clN {z : Int} (h : 0 ≤ z ∧ z < 2147483648) : (iI z).toNatClampNeg = z.toNat := by
  have := iI_clamp h
  omega
theorem z_aald (C : Zc p s m args c D K A nL cc own) {a n v : Nat} {f : Nat → Option Nat} {i : Int} (q0 : Nat) (ha : ws[q0]? = some (a, .inl (K.2.2, n, .inr (.inr (.inr (.inr f)))))) (hdg : decode cc pc = .ok (.aaload, 1)) (hb : 0 ≤ i ∧ i < n ∧ (n : Int) < 2147483648) (hf : f i.toNat = some v) (kk : Zw p l e R s m args below meth c D A nL Q cells slots ws (pc + 1) lv (.ref v :: st)) : Zw p l e R s m args below meth c D A nL Q cells slots ws pc lv (vZ i :: .ref a :: st) := fun H locs ls hP hD hS h => by
  refine va_aldq C.1 C.2.1 C.2.2.2.2.2.1 hP q0 2 ha rfl (iI_in hb) hdg ?_
  rw [iI_clN (by omega), hf]
  exact kk H locs ls hP hD hS h
theorem z_aast (C : Zc p s m args c D K A nL cc own) {a n v : Nat} {vs : List Value} {f : Nat → Option Nat} {i : Int} (q0 qk : Nat) (ha : ws[q0]? = some (a, .inl (K.2.2, n, .inr (.inr (.inr (.inr f)))))) (hv : ws[qk]? = some (v, .inr (3, vs))) (hdg : decode cc pc = .ok (.aastore, 1)) (hb : 0 ≤ i ∧ i < n ∧ (n : Int) < 2147483648) (kk : Zw p l e R s m args below meth c D A nL Q cells slots (ws.set q0 (a, .inl (K.2.2, n, .inr (.inr (.inr (.inr (va_up f i.toNat (some v)))))))) (pc + 1) lv st) : Zw p l e R s m args below meth c D A nL Q cells slots ws pc lv (.ref v :: vZ i :: .ref a :: st) := fun H locs ls hP hD hS h => by
  refine va_astq C.1 C.2.1 C.2.2.2.2.2.1 hP hD hS q0 2 qk 3 ha rfl hv rfl (iI_in hb) hdg (fun H1 locs1 hP1 hD1 hS1 => ?_)
  rw [iI_clN (by omega)] at hP1 hD1
  exact kk H1 locs1 ls hP1 hD1 hS1 h
theorem z_aload_nN (C : Zc p s m args c D K A nL cc own) (i : Nat) {k : Fin 4} (hdg : decode cc pc = .ok (.aload_n k, 1)) (hi : (k : Nat) = i) (hl : lv.lookup i = some .null) (kk : Zw p l e R s m args below meth c D A nL Q cells slots ws (pc + 1) lv (.null :: st)) : Zw p l e R s m args below meth c D A nL Q cells slots ws pc lv st := fun H locs ls hP hD hS h => lv_aload_nN C.1 C.2.1 hdg hi (h.2.2 i _ hl).2 (kk H locs ls hP hD hS h)
theorem z_aloadN (C : Zc p s m args c D K A nL cc own) {i : Nat} (hdg : decode cc pc = .ok (.aload i, 2)) (hl : lv.lookup i = some .null) (kk : Zw p l e R s m args below meth c D A nL Q cells slots ws (pc + 2) lv (.null :: st)) : Zw p l e R s m args below meth c D A nL Q cells slots ws pc lv st := fun H locs ls hP hD hS h => lv_aloadN C.1 C.2.1 hdg (h.2.2 i _ hl).2 (kk H locs ls hP hD hS h)
theorem z_astore_nN (C : Zc p s m args c D K A nL cc own) (i : Nat) {k : Fin 4} (hdg : decode cc pc = .ok (.astore_n k, 1)) (hi : (k : Nat) = i) (hn : i < nL) (kk : Zw p l e R s m args below meth c D A nL Q cells slots ws (pc + 1) ((i, .null) :: lv) st) : Zw p l e R s m args below meth c D A nL Q cells slots ws pc lv (.null :: st) := fun H locs ls hP hD hS h => lv_astore_nN C.1 C.2.1 hdg hi (lh_has h) hn rfl (fun ls2 h2 => kk H locs ls2 hP hD hS (lh_store h rfl h2))
theorem z_astoreN (C : Zc p s m args c D K A nL cc own) {i : Nat} (hdg : decode cc pc = .ok (.astore i, 2)) (hn : i < nL) (kk : Zw p l e R s m args below meth c D A nL Q cells slots ws (pc + 2) ((i, .null) :: lv) st) : Zw p l e R s m args below meth c D A nL Q cells slots ws pc lv (.null :: st) := fun H locs ls hP hD hS h => lv_astoreN C.1 C.2.1 hdg (lh_has h) hn rfl (fun ls2 h2 => kk H locs ls2 hP hD hS (lh_store h rfl h2))
end ZQ
theorem pos_no : ∀ (is : List Nat) (k t : Nat), k ∉ is → pos is k t = none
  | [], _, _, _ => rfl
  | i :: is, k, t, h => by
    unfold pos
    have h1 : Nat.beq i k = false := by
      cases hb : Nat.beq i k with
      | true => exact absurd (Nat.eq_of_beq_eq_true hb) (fun q => h (q ▸ List.mem_cons_self))
      | false => rfl
    rw [h1]
    exact pos_no is k (t + 1) (fun q => h (List.mem_cons_of_mem _ q))
theorem rep2_app (is : List Nat) (w : va_W) (hl : w.length ≤ is.length) : ∀ (l1 l2 : va_W) (k : Nat), rep2 is w k (l1 ++ l2) = rep2 is w k l1 ++ rep2 is w (k + l1.length) l2
  | [], l2, k => by
    show rep2 is w k l2 = w.drop is.length ++ rep2 is w (k + 0) l2
    rw [List.drop_eq_nil_of_le hl]; rfl
  | c :: l1, l2, k => by
    show _ :: rep2 is w (k + 1) (l1 ++ l2) = _ :: (rep2 is w (k + 1) l1 ++ rep2 is w (k + (l1.length + 1)) l2)
    rw [rep2_app is w hl l1 l2 (k + 1), show k + 1 + l1.length = k + (l1.length + 1) by omega]
theorem rep2_no (is : List Nat) (w : va_W) (hl : w.length ≤ is.length) : ∀ (ws : va_W) (k : Nat), (∀ j, k ≤ j → j < k + ws.length → j ∉ is) → rep2 is w k ws = ws
  | [], k, _ => List.drop_eq_nil_of_le hl
  | c :: ws, k, h => by
    show (match pos is k 0 with | some t => w.getD t c | none => c) :: rep2 is w (k + 1) ws = c :: ws
    rw [pos_no is k 0 (h k (Nat.le_refl _) (by simp)), rep2_no is w hl ws (k + 1) (fun j a b => h j (by omega) (by simp at b ⊢; omega))]
def lgW (K : tyK) (hs : Nat → Nat) (ag : Nat → Nat → Nat) (Lg : Nat → Bd) : Nat → va_W
  | 0 => []
  | n + 1 => lgW K hs ag Lg n ++ wLo K (hs n) (ag n) (Lg n)
theorem lgW_len (K : tyK) (hs : Nat → Nat) (ag : Nat → Nat → Nat) (Lg : Nat → Bd) : ∀ n, (lgW K hs ag Lg n).length = 4 * n
  | 0 => rfl
  | n + 1 => by
    show (lgW K hs ag Lg n ++ wLo K (hs n) (ag n) (Lg n)).length = _
    rw [List.length_append, lgW_len K hs ag Lg n]
    show 4 * n + 4 = _
    omega
theorem lgW_get (K : tyK) (hs : Nat → Nat) (ag : Nat → Nat → Nat) (Lg : Nat → Bd) {i j : Nat} (hj : j < 4) : ∀ n, i < n → (lgW K hs ag Lg n)[4 * i + j]? = (wLo K (hs i) (ag i) (Lg i))[j]?
  | 0, h => by omega
  | n + 1, h => by
    show (lgW K hs ag Lg n ++ wLo K (hs n) (ag n) (Lg n))[4 * i + j]? = _
    by_cases e : i = n
    · subst e
      rw [List.getElem?_append_right (by rw [lgW_len]; omega), lgW_len, show 4 * i + j - 4 * i = j by omega]
    · rw [List.getElem?_append_left (by rw [lgW_len]; omega), lgW_get K hs ag Lg hj n (by omega)]
theorem lgW_congr (K : tyK) {hs hs2 : Nat → Nat} {ag ag2 : Nat → Nat → Nat} {Lg Lg2 : Nat → Bd} : ∀ n, (∀ i, i < n → hs i = hs2 i ∧ ag i = ag2 i ∧ Lg i = Lg2 i) → lgW K hs ag Lg n = lgW K hs2 ag2 Lg2 n
  | 0, _ => rfl
  | n + 1, h => by
    show lgW K hs ag Lg n ++ wLo K (hs n) (ag n) (Lg n) = lgW K hs2 ag2 Lg2 n ++ wLo K (hs2 n) (ag2 n) (Lg2 n)
    rw [lgW_congr K n (fun i q => h i (by omega)), (h n (by omega)).1, (h n (by omega)).2.1, (h n (by omega)).2.2]
abbrev is4 (b i : Nat) : List Nat := [b + (4 * i + 0), b + (4 * i + 1), b + (4 * i + 2), b + (4 * i + 3)]
theorem is4_nd (b i : Nat) : va_nd (is4 b i) = true := by
  simp only [is4, va_nd, List.mem_cons, List.not_mem_nil, Bool.and_eq_true, decide_eq_true_eq, or_false, not_or, not_false_eq_true, and_true]
  omega
theorem app_get (pre L : va_W) (j : Nat) : (pre ++ L)[pre.length + j]? = L[j]? := by
  rw [List.getElem?_append_right (by omega), show pre.length + j - pre.length = j by omega]
theorem is4_map (K : tyK) (hs : Nat → Nat) (ag : Nat → Nat → Nat) (Lg : Nat → Bd) {i n : Nat} (h : i < n) (pre : va_W) {b : Nat} (hb : b = pre.length) : (is4 b i).map (fun k => (pre ++ lgW K hs ag Lg n)[k]?) = (wLo K (hs i) (ag i) (Lg i)).map some := by
  subst hb
  show [(pre ++ lgW K hs ag Lg n)[pre.length + (4 * i + 0)]?, (pre ++ lgW K hs ag Lg n)[pre.length + (4 * i + 1)]?, (pre ++ lgW K hs ag Lg n)[pre.length + (4 * i + 2)]?, (pre ++ lgW K hs ag Lg n)[pre.length + (4 * i + 3)]?] = _
  rw [app_get, app_get, app_get, app_get, lgW_get K hs ag Lg (by omega) n h, lgW_get K hs ag Lg (by omega) n h, lgW_get K hs ag Lg (by omega) n h, lgW_get K hs ag Lg (by omega) n h]
  rfl
theorem rep2_wlo (K : tyK) (h1 h2 : Nat) (a1 a2 : Nat → Nat) (S1 S2 : Bd) (k : Nat) : rep2 [k + 0, k + 1, k + 2, k + 3] (wLo K h2 a2 S2) k (wLo K h1 a1 S1) = wLo K h2 a2 S2 := by
  have e : ∀ i j : Nat, i ≠ j → Nat.beq (k + i) (k + j) = false := by
    intro i j h
    cases hb : Nat.beq (k + i) (k + j) with
    | true => exact absurd (Nat.eq_of_beq_eq_true hb) (by omega)
    | false => rfl
  have r : ∀ i : Nat, Nat.beq (k + i) (k + i) = true := fun i => Nat.beq_refl _
  show [_, _, _, _] = _
  simp only [pos, show k + 1 + 1 = k + 2 by omega, show k + 1 + 1 + 1 = k + 3 by omega, show k + 2 + 1 = k + 3 by omega, show k + 0 = k by omega]
  have r0 : Nat.beq k k = true := r 0
  have e01 : Nat.beq k (k + 1) = false := e 0 1 (by omega)
  have e02 : Nat.beq k (k + 2) = false := e 0 2 (by omega)
  have e03 : Nat.beq k (k + 3) = false := e 0 3 (by omega)
  rw [r0, e01, e02, e03, r 1, e 1 2 (by omega), e 1 3 (by omega), r 2, e 2 3 (by omega), r 3]
  rfl
theorem lgW_rep (K : tyK) (hs : Nat → Nat) (ag : Nat → Nat → Nat) (Lg : Nat → Bd) {i : Nat} (S : Bd) {b : Nat} : ∀ n, i < n → rep2 (is4 b i) (wLo K (hs i) (ag i) S) b (lgW K hs ag Lg n) = lgW K hs ag (va_up Lg i S) n
  | 0, h => by omega
  | n + 1, h => by
    show rep2 _ _ b (lgW K hs ag Lg n ++ wLo K (hs n) (ag n) (Lg n)) = lgW K hs ag (va_up Lg i S) n ++ wLo K (hs n) (ag n) (va_up Lg i S n)
    rw [rep2_app _ _ (Nat.le_refl _), lgW_len]
    by_cases e : i = n
    · subst e
      rw [va_up_self]
      congr 1
      · rw [rep2_no _ _ (Nat.le_refl _) _ _ (fun j a b hm => by
          rw [lgW_len] at b
          simp only [is4, List.mem_cons, List.not_mem_nil, or_false] at hm
          omega)]
        exact lgW_congr K i (fun k hk => ⟨rfl, rfl, (va_up_ne Lg S (by omega)).symm⟩)
      · show rep2 [b + (4 * i + 0), b + (4 * i + 1), b + (4 * i + 2), b + (4 * i + 3)] _ (b + 4 * i) _ = _
        have := rep2_wlo K (hs i) (hs i) (ag i) (ag i) (Lg i) S (b + 4 * i)
        rw [show b + (4 * i + 0) = b + 4 * i + 0 by omega, show b + (4 * i + 1) = b + 4 * i + 1 by omega, show b + (4 * i + 2) = b + 4 * i + 2 by omega, show b + (4 * i + 3) = b + 4 * i + 3 by omega]
        exact this
    · rw [va_up_ne Lg S (fun q => e q.symm), lgW_rep K hs ag Lg S n (by omega)]
      congr 1
      exact rep2_no _ _ (Nat.le_refl _) _ _ (fun j a c hm => by
        simp only [is4, List.mem_cons, List.not_mem_nil, or_false] at hm
        have c : j < b + 4 * n + 4 := c
        omega)
theorem lg_rep (K : tyK) (hs : Nat → Nat) (ag : Nat → Nat → Nat) (Lg : Nat → Bd) {i n : Nat} (h : i < n) (S : Bd) (pre : va_W) {b : Nat} (hb : b = pre.length) : rep (is4 b i) (pre ++ lgW K hs ag Lg n) (wLo K (hs i) (ag i) S) = pre ++ lgW K hs ag (va_up Lg i S) n := by
  subst hb
  unfold rep
  rw [rep2_app _ _ (Nat.le_refl _), Nat.zero_add, lgW_rep K hs ag Lg S n h]
  congr 1
  exact rep2_no _ _ (Nat.le_refl _) _ _ (fun j a c hm => by
    simp only [is4, List.mem_cons, List.not_mem_nil, or_false] at hm
    omega)
/-! a call over a part of the world and all logs -/
theorem map_range (L : va_W) (pre : va_W) : (List.range' pre.length L.length).map (fun k => (pre ++ L)[k]?) = L.map some := by
  apply List.ext_getElem?
  intro j
  rw [List.getElem?_map, List.getElem?_map]
  by_cases h : j < L.length
  · rw [List.getElem?_range' h, Option.map_some, List.getElem?_eq_getElem h, Option.map_some, Nat.one_mul, app_get, List.getElem?_eq_getElem h]
  · rw [List.getElem?_eq_none (by simp; omega), List.getElem?_eq_none (by omega)]
    rfl
theorem nd_app : ∀ (a b : List Nat), va_nd a = true → va_nd b = true → (∀ x ∈ a, x ∉ b) → va_nd (a ++ b) = true
  | [], b, _, h, _ => h
  | x :: a, b, h1, h2, h3 => by
    simp only [va_nd, Bool.and_eq_true, decide_eq_true_eq, List.cons_append, List.mem_append, not_or] at h1 ⊢
    exact ⟨⟨h1.1, h3 x List.mem_cons_self⟩, nd_app a b h1.2 h2 (fun y hy => h3 y (List.mem_cons_of_mem _ hy))⟩
theorem nd_range : ∀ (n b : Nat), va_nd (List.range' b n) = true
  | 0, _ => rfl
  | n + 1, b => by
    rw [List.range'_succ]
    simp only [va_nd, Bool.and_eq_true, decide_eq_true_eq]
    exact ⟨fun q => by have := List.mem_range'.mp q; omega, nd_range n (b + 1)⟩
theorem blk_map {is1 : List Nat} {pre w1 L : va_W} (h : is1.map (fun k => pre[k]?) = w1.map some) {b n : Nat} (hb : b = pre.length) (hn : n = L.length) : (is1 ++ List.range' b n).map (fun k => (pre ++ L)[k]?) = (w1 ++ L).map some := by
  subst hb; subst hn
  rw [List.map_append, List.map_append, map_range]
  congr 1
  rw [← h]
  apply List.map_congr_left
  intro k hk
  have : pre[k]? ∈ is1.map (fun k => pre[k]?) := List.mem_map.mpr ⟨k, hk, rfl⟩
  rw [h] at this
  obtain ⟨q, -, hq⟩ := List.mem_map.mp this
  have hlt : k < pre.length := by
    apply Classical.byContradiction
    intro z
    rw [List.getElem?_eq_none (by omega)] at hq
    cases hq
  rw [List.getElem?_append_left hlt]
theorem blk_lt {is1 : List Nat} {pre w1 : va_W} (h : is1.map (fun k => pre[k]?) = w1.map some) : ∀ k ∈ is1, k < pre.length := by
  intro k hk
  have : pre[k]? ∈ is1.map (fun k => pre[k]?) := List.mem_map.mpr ⟨k, hk, rfl⟩
  rw [h] at this
  obtain ⟨q, -, hq⟩ := List.mem_map.mp this
  apply Classical.byContradiction
  intro z
  rw [List.getElem?_eq_none (by omega)] at hq
  cases hq
theorem blk_nd {is1 : List Nat} {pre w1 : va_W} (h : is1.map (fun k => pre[k]?) = w1.map some) (hd : va_nd is1 = true) {b n : Nat} (hb : b = pre.length) : va_nd (is1 ++ List.range' b n) = true := by
  subst hb
  refine nd_app _ _ hd (nd_range _ _) (fun x hx q => ?_)
  have := blk_lt h x hx
  have := List.mem_range'.mp q
  omega
theorem pos_app : ∀ (a b : List Nat) (k t : Nat), k ∈ a → pos (a ++ b) k t = pos a k t
  | [], b, k, t, h => by cases h
  | i :: a, b, k, t, h => by
    show (bif Nat.beq i k then some t else pos (a ++ b) k (t + 1)) = (bif Nat.beq i k then some t else pos a k (t + 1))
    cases hb : Nat.beq i k with
    | true => rfl
    | false =>
      show pos (a ++ b) k (t + 1) = pos a k (t + 1)
      refine pos_app a b k (t + 1) ?_
      rcases List.mem_cons.mp h with e | e
      · rw [e, Nat.beq_refl] at hb; cases hb
      · exact e
theorem pos_app2 : ∀ (a b : List Nat) (k t : Nat), k ∉ a → pos (a ++ b) k t = pos b k (t + a.length)
  | [], b, k, t, _ => rfl
  | i :: a, b, k, t, h => by
    show (bif Nat.beq i k then some t else pos (a ++ b) k (t + 1)) = pos b k (t + (a.length + 1))
    have hb : Nat.beq i k = false := by
      cases hb : Nat.beq i k with
      | true => exact absurd (Nat.eq_of_beq_eq_true hb) (fun q => h (q ▸ List.mem_cons_self))
      | false => rfl
    rw [hb]
    show pos (a ++ b) k (t + 1) = _
    rw [pos_app2 a b k (t + 1) (fun q => h (List.mem_cons_of_mem _ q)), show t + 1 + a.length = t + (a.length + 1) by omega]
theorem pos_range : ∀ (n b j t : Nat), j < n → pos (List.range' b n) (b + j) t = some (t + j)
  | 0, _, _, _, h => by omega
  | n + 1, b, 0, t, h => by
    rw [List.range'_succ]
    show (bif Nat.beq b b then some t else _) = some t
    rw [Nat.beq_refl]; rfl
  | n + 1, b, j + 1, t, h => by
    rw [List.range'_succ]
    show (bif Nat.beq b (b + (j + 1)) then some t else pos (List.range' (b + 1) n) (b + (j + 1)) (t + 1)) = _
    have hb : Nat.beq b (b + (j + 1)) = false := by
      cases hb : Nat.beq b (b + (j + 1)) with
      | true => exact absurd (Nat.eq_of_beq_eq_true hb) (by omega)
      | false => rfl
    rw [hb]
    show pos (List.range' (b + 1) n) (b + (j + 1)) (t + 1) = _
    rw [show b + (j + 1) = b + 1 + j by omega, pos_range n (b + 1) j (t + 1) (by omega), show t + 1 + j = t + (j + 1) by omega]
theorem pos_bnd : ∀ (a : List Nat) (k t u : Nat), pos a k t = some u → u < t + a.length
  | [], _, _, _, h => by cases h
  | i :: a, k, t, u, h => by
    unfold pos at h
    cases hb : Nat.beq i k with
    | true => rw [hb] at h; cases h; simp
    | false => rw [hb] at h; have := pos_bnd a k (t + 1) u h; simp; omega
theorem blk_rep2a (is1 : List Nat) (w1 L2 : va_W) (B n : Nat) (hw : w1.length = is1.length) (hn : L2.length = n) : ∀ (pre : va_W) (k : Nat), k + pre.length ≤ B → rep2 (is1 ++ List.range' B n) (w1 ++ L2) k pre = rep2 is1 w1 k pre
  | [], k, _ => by
    show (w1 ++ L2).drop (is1 ++ List.range' B n).length = w1.drop is1.length
    rw [List.drop_eq_nil_of_le (by rw [List.length_append, List.length_append, List.length_range']; omega), List.drop_eq_nil_of_le (by omega)]
  | c :: pre, k, h => by
    have hl : (c :: pre).length = pre.length + 1 := rfl
    show (match pos (is1 ++ List.range' B n) k 0 with | some t => (w1 ++ L2).getD t c | none => c) :: rep2 _ _ (k + 1) pre = (match pos is1 k 0 with | some t => w1.getD t c | none => c) :: rep2 is1 w1 (k + 1) pre
    rw [blk_rep2a is1 w1 L2 B n hw hn pre (k + 1) (by omega)]
    congr 1
    by_cases hk : k ∈ is1
    · rw [pos_app is1 _ k 0 hk]
      cases hp : pos is1 k 0 with
      | none => rfl
      | some t =>
        have := pos_bnd is1 k 0 t hp
        show (w1 ++ L2).getD t c = w1.getD t c
        rw [List.getD_eq_getElem?_getD, List.getD_eq_getElem?_getD, List.getElem?_append_left (by omega)]
    · rw [pos_app2 is1 _ k 0 hk, pos_no is1 k 0 hk, pos_no _ k _ (fun q => by have := List.mem_range'.mp q; omega)]
theorem blk_rep2b (is1 : List Nat) (w1 L2 : va_W) (B : Nat) (hw : w1.length = is1.length) (hlt : ∀ k ∈ is1, k < B) : ∀ (L : va_W) (j : Nat), j + L.length = L2.length → rep2 (is1 ++ List.range' B L2.length) (w1 ++ L2) (B + j) L = L2.drop j
  | [], j, h => by
    show (w1 ++ L2).drop (is1 ++ List.range' B L2.length).length = L2.drop j
    rw [List.drop_eq_nil_of_le (by rw [List.length_append, List.length_append, List.length_range']; omega), List.drop_eq_nil_of_le (by simp at h; omega)]
  | c :: L, j, h => by
    have hl : (c :: L).length = L.length + 1 := rfl
    have hj : j < L2.length := by omega
    show (match pos (is1 ++ List.range' B L2.length) (B + j) 0 with | some t => (w1 ++ L2).getD t c | none => c) :: rep2 _ _ (B + j + 1) L = L2.drop j
    rw [pos_app2 is1 _ (B + j) 0 (fun q => by have := hlt _ q; omega), pos_range _ _ _ _ hj, show B + j + 1 = B + (j + 1) by omega, blk_rep2b is1 w1 L2 B hw hlt L (j + 1) (by omega)]
    show (w1 ++ L2).getD (0 + is1.length + j) c :: L2.drop (j + 1) = L2.drop j
    rw [List.getD_eq_getElem?_getD, List.getElem?_append_right (by omega), show 0 + is1.length + j - w1.length = j by omega, List.getElem?_eq_getElem hj, List.drop_eq_getElem_cons hj]
    rfl
theorem blk_rep {is1 : List Nat} {pre w1 L w2 L2 : va_W} (h : is1.map (fun k => pre[k]?) = w1.map some) (hw : w2.length = w1.length) (hL : L2.length = L.length) {b n : Nat} (hb : b = pre.length) (hn : n = L.length) : rep (is1 ++ List.range' b n) (pre ++ L) (w2 ++ L2) = rep is1 pre w2 ++ L2 := by
  subst hb; subst hn
  have hi : w2.length = is1.length := by
    have := congrArg List.length h
    simp at this
    omega
  have hlt := blk_lt h
  unfold rep
  rw [rep2_app _ _ (by rw [List.length_append, List.length_append, List.length_range']; omega), Nat.zero_add, blk_rep2a is1 w2 L2 _ _ hi hL pre 0 (by omega)]
  congr 1
  have := blk_rep2b is1 w2 L2 pre.length hi hlt L 0 (by omega)
  rw [hL] at this
  simpa using this
theorem rep_pre {is : List Nat} {pre w1 L w2 : va_W} (h : is.map (fun k => pre[k]?) = w1.map some) (hl : w2.length ≤ is.length) : rep is (pre ++ L) w2 = rep is pre w2 ++ L := by
  have hlt := blk_lt h
  unfold rep
  rw [rep2_app _ _ hl]
  congr 1
  exact rep2_no _ _ hl _ _ (fun j a b hm => by have := hlt j hm; omega)
theorem rep_nil (ws : va_W) : rep [] ws [] = ws := rep2_no [] [] (Nat.le_refl _) ws 0 (fun _ _ _ => List.not_mem_nil)
