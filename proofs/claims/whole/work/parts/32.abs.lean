/-! ===== THE MATHEMATICAL STATE: numbers by crowd and town; each road's queue, car by car (crowds); the cars on it (crowd, hour due) =====
A.1: 0 let go, 1 off, 2 at home, 3 last home, 4 water, 5 lacked; A.2.1: 0 now, 1 waited; A.2.2.1: queues; A.2.2.2: on the roads.
Roads Ne (0 from, 1 to, 2 lets, 3 hours, 4 shutFrom, 5 shutTo, 6 least, 7 way; 8 count), crowds Cr (0 place, 1 cars, 2 home; 3 count), towns To (3 count) -/
abbrev Ab : Type := (Nat → Int → Int) × (Nat → Int) × (Int → List Int) × (Int → List (Int × Int))
def aI (A : Ab) (k : Nat) (f : Int → Int) : Ab := (upf A.1 k f, A.2)
def aS (A : Ab) (k : Nat) (v : Int) : Ab := (A.1, upf A.2.1 k v, A.2.2)
def aQ (A : Ab) (r : Int) (l : List Int) : Ab := (A.1, A.2.1, upL A.2.2.1 r l, A.2.2.2)
def aD (A : Ab) (r : Int) (l : List (Int × Int)) : Ab := (A.1, A.2.1, A.2.2.1, upL A.2.2.2 r l)
def aWay (Ne Cr : Bd) (town c : Int) : Int := Ne.1 7 (town * 10 + Cr.1 2 c)
def aArr1 (Ne Cr : Bd) (town : Int) (A : Ab) (c : Int) : Ab :=
  if town = Cr.1 2 c then
    (if A.1 2 c + 1 = Cr.1 1 c then aI (aI A 2 (upz (A.1 2) c (A.1 2 c + 1))) 3 (upz (A.1 3) c (A.2.1 0)) else aI A 2 (upz (A.1 2) c (A.1 2 c + 1)))
  else aQ A (aWay Ne Cr town c) (A.2.2.1 (aWay Ne Cr town c) ++ [c])
def aArr (Ne Cr : Bd) (town : Int) (A : Ab) (c : Int) (n : Nat) : Ab := (List.replicate n c).foldl (aArr1 Ne Cr town) A
def aCome1 (Ne Cr : Bd) (r : Int) (A : Ab) : Ab := (((A.2.2.2 r).takeWhile (fun q => q.2 == A.2.1 0)).map (fun q => q.1)).foldl (aArr1 Ne Cr (Ne.1 1 r)) (aD A r ((A.2.2.2 r).dropWhile (fun q => q.2 == A.2.1 0)))
def aCome (Ne Cr : Bd) (A : Ab) : Nat → Ab
  | 0 => A
  | n + 1 => aCome1 Ne Cr (n : Int) (aCome Ne Cr A n)
def aLet1 (Ne Cr : Bd) (A : Ab) (c : Int) : Ab :=
  if A.1 1 c = 0 ∧ A.1 0 c = A.2.1 0 then aQ (aI A 1 (upz (A.1 1) c 1)) (aWay Ne Cr (Cr.1 0 c) c) (A.2.2.1 (aWay Ne Cr (Cr.1 0 c) c) ++ List.replicate (Cr.1 1 c).toNat c) else A
def aLet (Ne Cr : Bd) (A : Ab) : Nat → Ab
  | 0 => A
  | n + 1 => aLet1 Ne Cr (aLet Ne Cr A n) (n : Int)
/-- how many set out on a road in this hour -/
def aK (Ne : Bd) (A : Ab) (r : Int) : Nat := if Ne.1 4 r ≤ A.2.1 0 ∧ A.2.1 0 < Ne.1 5 r then 0 else min (Ne.1 2 r).toNat (A.2.2.1 r).length
def aOut1 (Ne : Bd) (A : Ab) (r : Int) : Ab :=
  aS (aD (aQ A r ((A.2.2.1 r).drop (aK Ne A r))) r (A.2.2.2 r ++ ((A.2.2.1 r).take (aK Ne A r)).map (fun c => (c, A.2.1 0 + Ne.1 3 r)))) 1 (A.2.1 1 + (((A.2.2.1 r).drop (aK Ne A r)).length : Int))
def aOut (Ne : Bd) (A : Ab) : Nat → Ab
  | 0 => A
  | n + 1 => aOut1 Ne (aOut Ne A n) (n : Int)
/-- cars in a town: not let go, home, queued -/
def aAt (Ne Cr : Bd) (A : Ab) (t : Int) : Int := smI (fun c => (if A.1 1 c = 0 ∧ Cr.1 0 c = t then Cr.1 1 c else 0) + (if Cr.1 2 c = t then A.1 2 c else 0)) 0 (Cr.2 3).toNat + smI (fun r => if Ne.1 0 r = t then ((A.2.2.1 r).length : Int) else 0) 0 (Ne.2 8).toNat
def aDr (To Ne Cr : Bd) (A : Ab) : Ab := aI (aI A 4 (fun t => if 0 ≤ t ∧ t < To.2 3 then A.1 4 t - min (aAt Ne Cr A t) (A.1 4 t) else A.1 4 t)) 5 (fun t => if 0 ≤ t ∧ t < To.2 3 then A.1 5 t + (aAt Ne Cr A t - min (aAt Ne Cr A t) (A.1 4 t)) else A.1 5 t)
def aDrive (Ne Cr : Bd) (A : Ab) : Ab := aOut Ne (aLet Ne Cr (aCome Ne Cr A (Ne.2 8).toNat) (Cr.2 3).toNat) (Ne.2 8).toNat
def aHour (To Ne Cr : Bd) (A : Ab) : Ab := aS (aDr To Ne Cr (aDrive Ne Cr A)) 0 (A.2.1 0 + 1)
/-! parts, car by car -/
def fq : List Pt3 → List Int
  | [] => []
  | q :: l => List.replicate q.2.1.toNat q.1 ++ fq l
def fd : List Pt3 → List (Int × Int)
  | [] => []
  | q :: l => List.replicate q.2.1.toNat (q.1, q.2.2) ++ fd l
theorem fq_app (l m : List Pt3) : fq (l ++ m) = fq l ++ fq m := by
  induction l with
  | nil => rfl
  | cons q l ih => show _ ++ fq (l ++ m) = _; rw [ih, ← List.append_assoc]; rfl
theorem fd_app (l m : List Pt3) : fd (l ++ m) = fd l ++ fd m := by
  induction l with
  | nil => rfl
  | cons q l ih => show _ ++ fd (l ++ m) = _; rw [ih, ← List.append_assoc]; rfl
theorem fq_ap3 (l : List Pt3) (who many hour : Int) (hm : 0 ≤ many) (hl : ∀ q ∈ l, 1 ≤ q.2.1) : fq (ap3 l who many hour) = fq l ++ List.replicate many.toNat who := by
  rcases List.eq_nil_or_concat l with rfl | ⟨l2, q, rfl⟩
  · rw [ap3_nil]; show List.replicate _ _ ++ [] = [] ++ _; simp
  · rw [List.concat_eq_append] at hl ⊢
    have h1 := hl q (List.mem_append_right _ List.mem_cons_self)
    rw [ap3_snoc]
    by_cases z : q.1 = who ∧ q.2.2 = hour
    · rw [if_pos z, fq_app, fq_app, List.append_assoc]
      congr 1
      show List.replicate (q.2.1 + many).toNat q.1 ++ [] = (List.replicate q.2.1.toNat q.1 ++ []) ++ List.replicate many.toNat who
      rw [← z.1, List.append_nil, List.append_nil, List.replicate_append_replicate]
      congr 1; omega
    · rw [if_neg z, fq_app]
      congr 1
      show List.replicate _ _ ++ [] = _; simp
theorem fd_ap3 (l : List Pt3) (who many hour : Int) (hm : 0 ≤ many) (hl : ∀ q ∈ l, 1 ≤ q.2.1) : fd (ap3 l who many hour) = fd l ++ List.replicate many.toNat (who, hour) := by
  rcases List.eq_nil_or_concat l with rfl | ⟨l2, q, rfl⟩
  · rw [ap3_nil]; show List.replicate _ _ ++ [] = [] ++ _; simp
  · rw [List.concat_eq_append] at hl ⊢
    have h1 := hl q (List.mem_append_right _ List.mem_cons_self)
    rw [ap3_snoc]
    by_cases z : q.1 = who ∧ q.2.2 = hour
    · rw [if_pos z, fd_app, fd_app, List.append_assoc]
      congr 1
      show List.replicate (q.2.1 + many).toNat (q.1, q.2.2) ++ [] = (List.replicate q.2.1.toNat (q.1, q.2.2) ++ []) ++ List.replicate many.toNat (who, hour)
      rw [← z.1, ← z.2, List.append_nil, List.append_nil, List.replicate_append_replicate]
      congr 1; omega
    · rw [if_neg z, fd_app]
      congr 1
      show List.replicate _ _ ++ [] = _; simp
theorem ap3_len (l : List Pt3) (who many hour : Int) : (ap3 l who many hour).length ≤ l.length + 1 := by
  rcases List.eq_nil_or_concat l with rfl | ⟨l2, q, rfl⟩
  · rw [ap3_nil]; simp
  · rw [List.concat_eq_append, ap3_snoc]
    split <;> simp
theorem ap3_due {l : List Pt3} {who many : Int} (h : ∀ q ∈ l, q.2.2 = 0) : ∀ q ∈ ap3 l who many 0, q.2.2 = 0 := by
  rcases List.eq_nil_or_concat l with rfl | ⟨l2, p, rfl⟩
  · rw [ap3_nil]; intro q hq; rw [List.mem_singleton.mp hq]
  · rw [List.concat_eq_append] at h ⊢
    rw [ap3_snoc]
    intro q hq
    split at hq
    · rcases List.mem_append.mp hq with z | z
      · exact h q (List.mem_append_left _ z)
      · rw [List.mem_singleton.mp z]; exact h p (List.mem_append_right _ List.mem_cons_self)
    · rcases List.mem_append.mp hq with z | z
      · exact h q z
      · rw [List.mem_singleton.mp z]
theorem csum_fq : ∀ (l : List Pt3), (∀ q ∈ l, 1 ≤ q.2.1) → csum l = ((fq l).length : Int)
  | [], _ => rfl
  | q :: l, h => by
    show q.2.1 + csum l = ((List.replicate q.2.1.toNat q.1 ++ fq l).length : Int)
    have h1 := h q List.mem_cons_self
    rw [csum_fq l (fun x hx => h x (List.mem_cons_of_mem _ hx)), List.length_append, List.length_replicate]
    omega
theorem csum_fd : ∀ (l : List Pt3), (∀ q ∈ l, 1 ≤ q.2.1) → csum l = ((fd l).length : Int)
  | [], _ => rfl
  | q :: l, h => by
    show q.2.1 + csum l = ((List.replicate q.2.1.toNat (q.1, q.2.2) ++ fd l).length : Int)
    have h1 := h q List.mem_cons_self
    rw [csum_fd l (fun x hx => h x (List.mem_cons_of_mem _ hx)), List.length_append, List.length_replicate]
    omega
/-! arrivals -/
theorem upL_up {α : Type} (P : Int → α) (r : Int) (l m : α) : upL (upL P r l) r m = upL P r m := by
  funext j; unfold upL; split <;> rfl
theorem upL_eq {α : Type} (P : Int → α) (r : Int) : upL P r (P r) = P := by
  funext j; unfold upL; split
  · subst_vars; rfl
  · rfl
theorem aArr1_D (Ne Cr : Bd) (town : Int) (A : Ab) (c r : Int) (l : List (Int × Int)) : aArr1 Ne Cr town (aD A r l) c = aD (aArr1 Ne Cr town A c) r l := by
  unfold aArr1
  show (if town = Cr.1 2 c then (if A.1 2 c + 1 = Cr.1 1 c then _ else _) else _) = _
  by_cases h : town = Cr.1 2 c
  · rw [if_pos h, if_pos h]
    by_cases h2 : A.1 2 c + 1 = Cr.1 1 c
    · rw [if_pos h2, if_pos h2]; rfl
    · rw [if_neg h2, if_neg h2]; rfl
  · rw [if_neg h, if_neg h]; rfl
theorem fold_D (Ne Cr : Bd) (town r : Int) (l : List (Int × Int)) : ∀ (cs : List Int) (A : Ab), cs.foldl (aArr1 Ne Cr town) (aD A r l) = aD (cs.foldl (aArr1 Ne Cr town) A) r l
  | [], A => rfl
  | c :: cs, A => by
    show cs.foldl (aArr1 Ne Cr town) (aArr1 Ne Cr town (aD A r l) c) = aD (cs.foldl (aArr1 Ne Cr town) (aArr1 Ne Cr town A c)) r l
    rw [aArr1_D, fold_D Ne Cr town r l cs]
theorem aArr1_keep (Ne Cr : Bd) (town : Int) (A : Ab) (c : Int) : (aArr1 Ne Cr town A c).2.1 = A.2.1 ∧ (aArr1 Ne Cr town A c).2.2.2 = A.2.2.2 ∧ (aArr1 Ne Cr town A c).1 0 = A.1 0 ∧ (aArr1 Ne Cr town A c).1 1 = A.1 1 ∧ (aArr1 Ne Cr town A c).1 4 = A.1 4 ∧ (aArr1 Ne Cr town A c).1 5 = A.1 5 := by
  unfold aArr1
  split
  · split <;> exact ⟨rfl, rfl, rfl, rfl, rfl, rfl⟩
  · exact ⟨rfl, rfl, rfl, rfl, rfl, rfl⟩
theorem fold_keep (Ne Cr : Bd) (town : Int) : ∀ (cs : List Int) (A : Ab), (cs.foldl (aArr1 Ne Cr town) A).2.1 = A.2.1 ∧ (cs.foldl (aArr1 Ne Cr town) A).2.2.2 = A.2.2.2 ∧ (cs.foldl (aArr1 Ne Cr town) A).1 0 = A.1 0 ∧ (cs.foldl (aArr1 Ne Cr town) A).1 1 = A.1 1 ∧ (cs.foldl (aArr1 Ne Cr town) A).1 4 = A.1 4 ∧ (cs.foldl (aArr1 Ne Cr town) A).1 5 = A.1 5
  | [], A => ⟨rfl, rfl, rfl, rfl, rfl, rfl⟩
  | c :: cs, A => by
    have h := fold_keep Ne Cr town cs (aArr1 Ne Cr town A c)
    have g := aArr1_keep Ne Cr town A c
    show (cs.foldl (aArr1 Ne Cr town) (aArr1 Ne Cr town A c)).2.1 = A.2.1 ∧ _
    exact ⟨h.1.trans g.1, h.2.1.trans g.2.1, h.2.2.1.trans g.2.2.1, h.2.2.2.1.trans g.2.2.2.1, h.2.2.2.2.1.trans g.2.2.2.2.1, h.2.2.2.2.2.trans g.2.2.2.2.2⟩
theorem aCome1_step {Ne Cr : Bd} {r c : Int} {n : Nat} {rest : List (Int × Int)} {A : Ab} (h : A.2.2.2 r = List.replicate n (c, A.2.1 0) ++ rest) : aCome1 Ne Cr r A = aCome1 Ne Cr r (aArr Ne Cr (Ne.1 1 r) (aD A r rest) c n) := by
  have hk := fold_keep Ne Cr (Ne.1 1 r) (List.replicate n c) (aD A r rest)
  have e2 : (aArr Ne Cr (Ne.1 1 r) (aD A r rest) c n).2.1 = A.2.1 := hk.1
  have e3 : (aArr Ne Cr (Ne.1 1 r) (aD A r rest) c n).2.2.2 r = rest := by rw [show (aArr Ne Cr (Ne.1 1 r) (aD A r rest) c n).2.2.2 = (aD A r rest).2.2.2 from hk.2.1]; exact upL_self _ _ _
  unfold aCome1
  rw [e2, e3, h]
  have t1 : ∀ m : Nat, (List.replicate m (c, A.2.1 0) ++ rest).takeWhile (fun q => q.2 == A.2.1 0) = List.replicate m (c, A.2.1 0) ++ rest.takeWhile (fun q => q.2 == A.2.1 0) ∧ (List.replicate m (c, A.2.1 0) ++ rest).dropWhile (fun q => q.2 == A.2.1 0) = rest.dropWhile (fun q => q.2 == A.2.1 0) := by
    intro m
    induction m with
    | zero => exact ⟨rfl, rfl⟩
    | succ m ih =>
      rw [List.replicate_succ, List.cons_append, List.takeWhile_cons, List.dropWhile_cons]
      simp only [beq_self_eq_true, if_true]
      exact ⟨by rw [ih.1]; rfl, ih.2⟩
  rw [(t1 n).1, (t1 n).2, List.map_append, List.foldl_append, List.map_replicate]
  have e4 : aD (aArr Ne Cr (Ne.1 1 r) (aD A r rest) c n) r (rest.dropWhile (fun q => q.2 == A.2.1 0)) = (List.replicate n c).foldl (aArr1 Ne Cr (Ne.1 1 r)) (aD A r (rest.dropWhile (fun q => q.2 == A.2.1 0))) := by
    unfold aArr
    rw [fold_D, fold_D]
    show (_, _, _, upL (upL _ r rest) r _) = (_, _, _, upL _ r _)
    rw [upL_up]
    rfl
  rw [e4]
theorem aCome1_done {Ne Cr : Bd} {r : Int} {A : Ab} (h : ∀ q l, A.2.2.2 r = q :: l → q.2 ≠ A.2.1 0) : aCome1 Ne Cr r A = A := by
  unfold aCome1
  have e : (A.2.2.2 r).takeWhile (fun q => q.2 == A.2.1 0) = [] ∧ (A.2.2.2 r).dropWhile (fun q => q.2 == A.2.1 0) = A.2.2.2 r := by
    cases hd : A.2.2.2 r with
    | nil => exact ⟨rfl, rfl⟩
    | cons q l =>
      have := h q l hd
      rw [List.takeWhile_cons, List.dropWhile_cons]
      have hb : (q.2 == A.2.1 0) = false := by simp [this]
      rw [hb]
      exact ⟨rfl, rfl⟩
  rw [e.1, e.2]
  show aD A r (A.2.2.2 r) = A
  show (A.1, A.2.1, A.2.2.1, upL A.2.2.2 r (A.2.2.2 r)) = A
  rw [upL_eq]
theorem aArr_queue {Ne Cr : Bd} {town c : Int} (h : town ≠ Cr.1 2 c) : ∀ (n : Nat) (A : Ab), aArr Ne Cr town A c n = aQ A (aWay Ne Cr town c) (A.2.2.1 (aWay Ne Cr town c) ++ List.replicate n c)
  | 0, A => by
    show A = _
    rw [List.replicate_zero, List.append_nil]
    show A = (A.1, A.2.1, upL A.2.2.1 _ (A.2.2.1 _), A.2.2.2)
    rw [upL_eq]
  | n + 1, A => by
    show aArr Ne Cr town (aArr1 Ne Cr town A c) c n = _
    rw [aArr_queue h n]
    have e : aArr1 Ne Cr town A c = aQ A (aWay Ne Cr town c) (A.2.2.1 (aWay Ne Cr town c) ++ [c]) := if_neg h
    rw [e]
    show (A.1, A.2.1, upL (upL A.2.2.1 _ _) _ (upL A.2.2.1 _ _ _ ++ _), A.2.2.2) = (A.1, A.2.1, upL A.2.2.1 _ _, A.2.2.2)
    rw [upL_up, upL_self, List.append_assoc]
    rfl
theorem aArr_home {Ne Cr : Bd} {town c : Int} (h : town = Cr.1 2 c) : ∀ (n : Nat) (A : Ab), 1 ≤ n → A.1 2 c + n ≤ Cr.1 1 c → (aArr Ne Cr town A c n).2 = A.2 ∧ (∀ k, k ≠ 2 → k ≠ 3 → (aArr Ne Cr town A c n).1 k = A.1 k) ∧ (aArr Ne Cr town A c n).1 2 = upz (A.1 2) c (A.1 2 c + n) ∧ (aArr Ne Cr town A c n).1 3 = (if A.1 2 c + n = Cr.1 1 c then upz (A.1 3) c (A.2.1 0) else A.1 3)
  | 0, A, h1, _ => by omega
  | 1, A, _, _ => by
    show (aArr1 Ne Cr town A c).2 = A.2 ∧ (∀ k, k ≠ 2 → k ≠ 3 → (aArr1 Ne Cr town A c).1 k = A.1 k) ∧ (aArr1 Ne Cr town A c).1 2 = _ ∧ (aArr1 Ne Cr town A c).1 3 = _
    unfold aArr1
    rw [if_pos h]
    by_cases z : A.1 2 c + 1 = Cr.1 1 c
    · rw [if_pos z, if_pos (by omega)]
      refine ⟨rfl, fun k k1 k2 => ?_, rfl, rfl⟩
      show upf (upf A.1 2 _) 3 _ k = A.1 k
      rw [upf_eq, if_neg k2, upf_eq, if_neg k1]
    · rw [if_neg z, if_neg (by omega)]
      refine ⟨rfl, fun k k1 k2 => ?_, rfl, rfl⟩
      show upf A.1 2 _ k = A.1 k
      rw [upf_eq, if_neg k1]
  | n + 2, A, _, h2 => by
    have e : aArr1 Ne Cr town A c = aI A 2 (upz (A.1 2) c (A.1 2 c + 1)) := by
      unfold aArr1
      rw [if_pos h, if_neg (by omega)]
    have e2 : (aI A 2 (upz (A.1 2) c (A.1 2 c + 1))).1 2 = upz (A.1 2) c (A.1 2 c + 1) := rfl
    have e3 : upz (A.1 2) c (A.1 2 c + 1) c = A.1 2 c + 1 := upz_self _ _ _
    have ih := aArr_home (Ne := Ne) h (n + 1) (aI A 2 (upz (A.1 2) c (A.1 2 c + 1))) (by omega) (by rw [e2, e3]; omega)
    show (aArr Ne Cr town (aArr1 Ne Cr town A c) c (n + 1)).2 = A.2 ∧ (∀ k, k ≠ 2 → k ≠ 3 → (aArr Ne Cr town (aArr1 Ne Cr town A c) c (n + 1)).1 k = A.1 k) ∧ (aArr Ne Cr town (aArr1 Ne Cr town A c) c (n + 1)).1 2 = _ ∧ (aArr Ne Cr town (aArr1 Ne Cr town A c) c (n + 1)).1 3 = _
    rw [e]
    obtain ⟨i1, i2, i3, i4⟩ := ih
    rw [e2, e3] at i3 i4
    refine ⟨i1, fun k k1 k2 => ?_, ?_, ?_⟩
    · rw [i2 k k1 k2]
      show upf A.1 2 _ k = A.1 k
      rw [upf_eq, if_neg k1]
    · rw [i3]
      funext j
      unfold upz
      split
      · omega
      · rfl
    · rw [i4]
      show (if A.1 2 c + 1 + ((n + 1 : Nat) : Int) = Cr.1 1 c then upz (A.1 3) c (A.2.1 0) else A.1 3) = _
      by_cases z : A.1 2 c + ((n + 2 : Nat) : Int) = Cr.1 1 c
      · rw [if_pos z, if_pos (by omega)]
      · rw [if_neg z, if_neg (by omega)]
