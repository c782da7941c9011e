/-! ===== plain facts: chains in arrays ===== -/
def Chn (nx : Int → Int) : Int → List Int → Prop
  | h, [] => h = -1
  | h, x :: l => h = x ∧ Chn nx (nx x) l
theorem Chn.congr {nx nx2 : Int → Int} : ∀ {l : List Int} {h : Int}, (∀ x ∈ l, nx2 x = nx x) → Chn nx h l → Chn nx2 h l
  | [], _, _, hc => hc
  | x :: l, h, hn, hc => ⟨hc.1, by rw [hn x List.mem_cons_self]; exact Chn.congr (fun y hy => hn y (List.mem_cons_of_mem _ hy)) hc.2⟩
theorem Chn.snoc {nx nx2 : Int → Int} {p : Int} (hp : nx2 p = -1) : ∀ {l : List Int} {h : Int}, l ≠ [] → l.Nodup → (∀ x ∈ l, x ≠ l.getLastD (-1) → nx2 x = nx x) → nx2 (l.getLastD (-1)) = p → Chn nx h l → Chn nx2 h (l ++ [p])
  | [], _, h0, _, _, _, _ => absurd rfl h0
  | [x], h, _, _, _, hl, hc => ⟨hc.1, by
      have hl : nx2 x = p := hl
      rw [hl]
      exact ⟨rfl, hp⟩⟩
  | x :: y :: l, h, _, hnd, hn, hl, hc => by
    have hnd2 := List.nodup_cons.mp hnd
    have hlast : (x :: y :: l).getLastD (-1) = (y :: l).getLastD (-1) := rfl
    have hmem : (y :: l).getLastD (-1) ∈ (y :: l) := by
      rw [List.getLastD_eq_getLast?, List.getLast?_eq_some_getLast (List.cons_ne_nil y l)]
      exact List.getLast_mem _
    have hx : nx2 x = nx x := hn x List.mem_cons_self (fun e => hnd2.1 (by rw [hlast] at e; rw [e]; exact hmem))
    refine ⟨hc.1, ?_⟩
    rw [hx]
    exact Chn.snoc hp (List.cons_ne_nil y l) hnd2.2 (fun z hz hne => hn z (List.mem_cons_of_mem _ hz) (by rw [hlast]; exact hne)) (by rw [← hlast]; exact hl) hc.2
def sumz (f : Int → Int) : List Int → Int
  | [] => 0
  | x :: l => f x + sumz f l
theorem sumz_congr {f g : Int → Int} : ∀ {l : List Int}, (∀ x ∈ l, f x = g x) → sumz f l = sumz g l
  | [], _ => rfl
  | x :: l, h => by
    show f x + sumz f l = g x + sumz g l
    rw [h x List.mem_cons_self, sumz_congr (fun y hy => h y (List.mem_cons_of_mem _ hy))]
theorem sumz_app (f : Int → Int) (p : Int) : ∀ l : List Int, sumz f (l ++ [p]) = sumz f l + f p
  | [] => by show f p + 0 = 0 + f p; omega
  | x :: l => by
    show f x + sumz f (l ++ [p]) = f x + sumz f l + f p
    rw [sumz_app f p l]; omega
theorem sumz_up {f : Int → Int} {p v : Int} : ∀ {l : List Int}, l.Nodup → p ∈ l → sumz (upz f p v) l = sumz f l - f p + v
  | [], _, h => by cases h
  | x :: l, hn, h => by
    have h2 := List.nodup_cons.mp hn
    show upz f p v x + sumz (upz f p v) l = f x + sumz f l - f p + v
    by_cases e : x = p
    · subst e
      rw [upz_self, sumz_congr (f := upz f x v) (g := f) (fun y hy => upz_ne _ _ (fun e => h2.1 (e ▸ hy)))]
      omega
    · rw [upz_ne _ _ e, sumz_up h2.2 ((List.mem_cons.mp h).resolve_left (fun q => e q.symm))]
      omega
def upL {α : Type} (P : Int → α) (r : Int) (l : α) : Int → α := fun j => if j = r then l else P j
theorem upL_self {α : Type} (P : Int → α) (r : Int) (l : α) : upL P r l r = l := if_pos rfl
theorem upL_ne {α : Type} (P : Int → α) {r j : Int} (l : α) (h : j ≠ r) : upL P r l j = P j := if_neg h
def lns {α : Type} (P : Int → List α) : Nat → Nat
  | 0 => 0
  | n + 1 => lns P n + (P (n : Int)).length
theorem lns_congr {α β : Type} {P : Int → List α} {Q : Int → List β} : ∀ {n : Nat}, (∀ r : Int, 0 ≤ r → r < n → (P r).length = (Q r).length) → lns P n = lns Q n
  | 0, _ => rfl
  | n + 1, h => by
    show lns P n + (P (n : Int)).length = lns Q n + (Q (n : Int)).length
    rw [lns_congr (fun r h1 h2 => h r h1 (by omega)), h n (by omega) (by omega)]
theorem lns_up {α : Type} {P : Int → List α} {r : Int} {l : List α} : ∀ {n : Nat}, 0 ≤ r → r < n → lns (upL P r l) n + (P r).length = lns P n + l.length
  | 0, h1, h2 => by omega
  | n + 1, h1, h2 => by
    show lns (upL P r l) n + (upL P r l (n : Int)).length + (P r).length = lns P n + (P (n : Int)).length + l.length
    by_cases e : r = (n : Int)
    · subst e
      rw [upL_self, lns_congr (P := upL P (n : Int) l) (Q := P) (fun j h3 h4 => by rw [upL_ne _ _ (by omega)])]
      omega
    · have h3 := lns_up (P := P) (r := r) (l := l) (n := n) h1 (by omega)
      rw [upL_ne _ _ (fun q => e q.symm)]
      omega
theorem lns_le {α : Type} {P : Int → List α} {r : Int} : ∀ {n : Nat}, 0 ≤ r → r < n → (P r).length ≤ lns P n
  | 0, h1, h2 => by omega
  | n + 1, h1, h2 => by
    show _ ≤ lns P n + (P (n : Int)).length
    by_cases e : r = (n : Int)
    · subst e; omega
    · have := lns_le (P := P) (r := r) (n := n) h1 (by omega)
      omega
def pw (N : Nat) : Prop := N = 32 ∨ N = 64 ∨ N = 128 ∨ N = 256 ∨ N = 512 ∨ N = 1024 ∨ N = 2048 ∨ N = 4096
/-- lines of parts in one store: the chains P, the free parts F, loose ones X -/
def LnF (N B : Nat) (fi la su ca nx : Int → Int) (us fr : Int) (P : Int → List Int) (F X : List Int) (ow : Int → Int) : Prop :=
  (pw N ∧ 0 ≤ us ∧ us ≤ N ∧ us ≤ B) ∧
  (∀ r : Int, 0 ≤ r → r < 32 → Chn nx (fi r) (P r) ∧ (P r).Nodup ∧ la r = (P r).getLastD (-1) ∧ su r = sumz ca (P r) ∧ ∀ x ∈ P r, 0 ≤ x ∧ x < us ∧ ow x = r ∧ 1 ≤ ca x) ∧
  (Chn nx fr F ∧ F.Nodup ∧ ∀ x ∈ F, 0 ≤ x ∧ x < us ∧ ow x = 32) ∧
  (X.Nodup ∧ ∀ x ∈ X, 0 ≤ x ∧ x < us ∧ ow x = 33) ∧
  ((lns P 32 : Nat) : Int) + F.length + X.length = us
section LN
variable {N B : Nat} {fi la su ca nx ow : Int → Int} {us fr : Int} {P : Int → List Int} {F X : List Int}
theorem ln_take1 {r p many : Int} {l : List Int} (h : LnF N B fi la su ca nx us fr P F X ow) (hr : 0 ≤ r ∧ r < 32) (hP : P r = p :: l) (hm : many < ca p) : LnF N B fi la (upz su r (su r - many)) (upz ca p (ca p - many)) nx us fr P F X ow := by
  obtain ⟨h1, h2, h3, h4, h5⟩ := h
  refine ⟨h1, fun j hj1 hj2 => ?_, h3, h4, h5⟩
  obtain ⟨a1, a2, a3, a4, a5⟩ := h2 j hj1 hj2
  have hpr := (h2 r hr.1 hr.2).2.2.2.2 p (by rw [hP]; exact List.mem_cons_self)
  refine ⟨a1, a2, a3, ?_, fun x hx => ?_⟩
  · by_cases e : j = r
    · subst e
      rw [upz_self, sumz_up a2 (by rw [hP]; exact List.mem_cons_self), ← a4]
      omega
    · rw [upz_ne _ _ e, a4]
      refine sumz_congr (fun x hx => (upz_ne _ _ (fun e2 => e ?_)).symm)
      rw [← (a5 x hx).2.2.1, e2]; exact hpr.2.2.1
  · have b := a5 x hx
    refine ⟨b.1, b.2.1, b.2.2.1, ?_⟩
    unfold upz
    split
    · omega
    · exact b.2.2.2
theorem ln_take2 {r p many : Int} {l : List Int} {la2 : Int → Int} (h : LnF N B fi la su ca nx us fr P F X ow) (hr : 0 ≤ r ∧ r < 32) (hP : P r = p :: l) (hm : many = ca p) (hla : ∀ j : Int, la2 j = if j = r ∧ l = [] then -1 else la j) : LnF N B (upz fi r (nx p)) la2 (upz su r (su r - many)) (upz ca p (ca p - many)) (upz nx p fr) us p (upL P r l) (p :: F) X (upz ow p 32) := by
  obtain ⟨h1, h2, h3, h4, h5⟩ := h
  obtain ⟨r1, r2, r3, r4, r5⟩ := h2 r hr.1 hr.2
  rw [hP] at r1 r2 r3 r4 r5
  have hp := r5 p List.mem_cons_self
  have hnd := List.nodup_cons.mp r2
  have other : ∀ j : Int, 0 ≤ j → j < 32 → ∀ x ∈ upL P r l j, x ≠ p ∧ 0 ≤ x ∧ x < us ∧ ow x = j ∧ 1 ≤ ca x := by
    intro j hj1 hj2 x hx
    by_cases e : j = r
    · subst e
      rw [upL_self] at hx
      exact ⟨fun e2 => hnd.1 (e2 ▸ hx), r5 x (List.mem_cons_of_mem _ hx)⟩
    · rw [upL_ne _ _ e] at hx
      have b := (h2 j hj1 hj2).2.2.2.2 x hx
      exact ⟨fun e2 => e (by rw [← b.2.2.1, e2]; exact hp.2.2.1), b⟩
  refine ⟨h1, fun j hj1 hj2 => ?_, ⟨⟨rfl, ?_⟩, ?_, ?_⟩, ⟨h4.1, fun x hx => ?_⟩, ?_⟩
  · have hot := other j hj1 hj2
    obtain ⟨a1, a2, a3, a4, a5⟩ := h2 j hj1 hj2
    refine ⟨?_, ?_, ?_, ?_, fun x hx => ?_⟩
    · refine Chn.congr (fun x hx => upz_ne _ _ (hot x hx).1) ?_
      by_cases e : j = r
      · subst e; rw [upz_self, upL_self]; exact r1.2
      · rw [upz_ne _ _ e, upL_ne _ _ e]; exact a1
    · by_cases e : j = r
      · subst e; rw [upL_self]; exact hnd.2
      · rw [upL_ne _ _ e]; exact a2
    · rw [hla j]
      by_cases e : j = r
      · subst e
        rw [upL_self]
        by_cases e2 : l = []
        · rw [if_pos ⟨rfl, e2⟩, e2]; rfl
        · rw [if_neg (fun q => e2 q.2), r3]
          obtain ⟨y, l2, rfl⟩ := List.exists_cons_of_ne_nil e2
          rfl
      · rw [if_neg (fun q => e q.1), upL_ne _ _ e]; exact a3
    · rw [sumz_congr (f := upz ca p (ca p - many)) (g := ca) (fun x hx => upz_ne _ _ (hot x hx).1)]
      by_cases e : j = r
      · subst e
        rw [upz_self, upL_self, r4]
        show ca p + sumz ca l - many = _
        omega
      · rw [upz_ne _ _ e, upL_ne _ _ e]; exact a4
    · obtain ⟨b0, b1, b2, b3, b4⟩ := hot x hx
      exact ⟨b1, b2, by rw [upz_ne _ _ b0]; exact b3, by rw [upz_ne _ _ b0]; exact b4⟩
  · rw [upz_self]
    exact Chn.congr (fun x hx => upz_ne _ _ (fun e => by have := (h3.2.2 x hx).2.2; rw [e, hp.2.2.1] at this; omega)) h3.1
  · exact List.nodup_cons.mpr ⟨fun hx => by have := (h3.2.2 p hx).2.2; rw [hp.2.2.1] at this; omega, h3.2.1⟩
  · intro x hx
    rcases List.mem_cons.mp hx with e | hx
    · subst e; exact ⟨hp.1, hp.2.1, upz_self _ _ _⟩
    · have b := h3.2.2 x hx
      exact ⟨b.1, b.2.1, by rw [upz_ne _ _ (fun e => by have := b.2.2; rw [e, hp.2.2.1] at this; omega)]; exact b.2.2⟩
  · have b := h4.2 x hx
    exact ⟨b.1, b.2.1, by rw [upz_ne _ _ (fun e => by have := b.2.2; rw [e, hp.2.2.1] at this; omega)]; exact b.2.2⟩
  · have e1 := lns_up (P := P) (r := r) (l := l) (n := 32) hr.1 (by omega)
    rw [hP] at e1
    simp only [List.length_cons] at e1 ⊢
    omega
theorem ln_merge {r p many : Int} (h : LnF N B fi la su ca nx us fr P F X ow) (hr : 0 ≤ r ∧ r < 32) (hp : p ∈ P r) (hm : 0 ≤ many) : LnF N B fi la (upz su r (su r + many)) (upz ca p (ca p + many)) nx us fr P F X ow := by
  obtain ⟨h1, h2, h3, h4, h5⟩ := h
  refine ⟨h1, fun j hj1 hj2 => ?_, h3, h4, h5⟩
  obtain ⟨a1, a2, a3, a4, a5⟩ := h2 j hj1 hj2
  have hpr := (h2 r hr.1 hr.2).2.2.2.2 p hp
  refine ⟨a1, a2, a3, ?_, fun x hx => ?_⟩
  · by_cases e : j = r
    · subst e
      rw [upz_self, sumz_up a2 hp, ← a4]
      omega
    · rw [upz_ne _ _ e, a4]
      refine sumz_congr (fun x hx => (upz_ne _ _ (fun e2 => e ?_)).symm)
      rw [← (a5 x hx).2.2.1, e2]; exact hpr.2.2.1
  · have b := a5 x hx
    refine ⟨b.1, b.2.1, b.2.2.1, ?_⟩
    unfold upz
    split
    · omega
    · exact b.2.2.2
theorem ln_push {r p many : Int} {fi2 nx2 : Int → Int} (h : LnF N B fi la su ca nx us fr P F [p] ow) (hr : 0 ≤ r ∧ r < 32) (hm : 1 ≤ many)
    (hfi : ∀ j : Int, fi2 j = if j = r ∧ P r = [] then p else fi j) (hnx : ∀ x : Int, nx2 x = if P r ≠ [] ∧ x = la r then p else if x = p then -1 else nx x) : LnF N B fi2 (upz la r p) (upz su r (su r + many)) (upz ca p many) nx2 us fr (upL P r (P r ++ [p])) F [] (upz ow p r) := by
  obtain ⟨h1, h2, h3, h4, h5⟩ := h
  have hp := h4.2 p List.mem_cons_self
  have nin : ∀ j : Int, 0 ≤ j → j < 32 → ∀ x ∈ P j, x ≠ p := by
    intro j hj1 hj2 x hx e
    have b := ((h2 j hj1 hj2).2.2.2.2 x hx).2.2.1
    rw [e, hp.2.2] at b; omega
  have ninF : ∀ x ∈ F, x ≠ p := by
    intro x hx e
    have b := (h3.2.2 x hx).2.2
    rw [e, hp.2.2] at b; omega
  have lamem : P r ≠ [] → la r ∈ P r := by
    intro hne
    rw [(h2 r hr.1 hr.2).2.2.1]
    rw [List.getLastD_eq_getLast?, List.getLast?_eq_some_getLast hne]
    exact List.getLast_mem _
  have keepnx : ∀ x : Int, ow x ≠ r → x ≠ p → nx2 x = nx x := by
    intro x h6 h7
    rw [hnx, if_neg, if_neg h7]
    rintro ⟨q1, q2⟩
    exact h6 (by rw [q2]; exact ((h2 r hr.1 hr.2).2.2.2.2 _ (lamem q1)).2.2.1)
  refine ⟨h1, fun j hj1 hj2 => ?_, ⟨Chn.congr (fun x hx => keepnx x (by rw [(h3.2.2 x hx).2.2]; omega) (ninF x hx)) h3.1, h3.2.1, fun x hx => ?_⟩, ⟨List.nodup_nil, fun x hx => absurd hx List.not_mem_nil⟩, ?_⟩
  · obtain ⟨a1, a2, a3, a4, a5⟩ := h2 j hj1 hj2
    by_cases e : j = r
    · subst e
      rw [upL_self, upz_self, upz_self]
      refine ⟨?_, ?_, ?_, ?_, fun x hx => ?_⟩
      · by_cases e2 : P j = []
        · rw [hfi, if_pos ⟨rfl, e2⟩, e2]
          refine ⟨rfl, ?_⟩
          show nx2 p = -1
          rw [hnx, if_neg (fun q => q.1 e2), if_pos rfl]
        · rw [hfi, if_neg (fun q => e2 q.2)]
          refine Chn.snoc (nx := nx) ?_ e2 a2 (fun x hx hne => ?_) ?_ a1
          · rw [hnx, if_neg, if_pos rfl]
            rintro ⟨q1, q2⟩
            exact nin j hj1 hj2 _ (lamem q1) q2.symm
          · rw [hnx, if_neg (fun q => hne (by rw [← a3]; exact q.2)), if_neg (nin j hj1 hj2 x hx)]
          · rw [← a3, hnx, if_pos ⟨e2, rfl⟩]
      · rw [List.nodup_append]
        exact ⟨a2, by simp, fun x hx y hy => by rw [List.mem_singleton.mp hy]; exact nin j hj1 hj2 x hx⟩
      · simp
      · rw [sumz_app, upz_self, a4, sumz_congr (f := upz ca p many) (g := ca) (fun x hx => upz_ne _ _ (nin j hj1 hj2 x hx))]
      · rcases List.mem_append.mp hx with q | q
        · have b := a5 x q
          have b0 := nin j hj1 hj2 x q
          exact ⟨b.1, b.2.1, by rw [upz_ne _ _ b0]; exact b.2.2.1, by rw [upz_ne _ _ b0]; exact b.2.2.2⟩
        · rw [List.mem_singleton.mp q]
          exact ⟨hp.1, hp.2.1, upz_self _ _ _, by rw [upz_self]; exact hm⟩
    · rw [upL_ne _ _ e, upz_ne _ _ e, upz_ne _ _ e, hfi, if_neg (fun q => e q.1)]
      refine ⟨Chn.congr (fun x hx => keepnx x (by rw [(a5 x hx).2.2.1]; exact e) (nin j hj1 hj2 x hx)) a1, a2, a3, ?_, fun x hx => ?_⟩
      · rw [a4]; exact sumz_congr (fun x hx => (upz_ne _ _ (nin j hj1 hj2 x hx)).symm)
      · have b := a5 x hx
        have b0 := nin j hj1 hj2 x hx
        exact ⟨b.1, b.2.1, by rw [upz_ne _ _ b0]; exact b.2.2.1, by rw [upz_ne _ _ b0]; exact b.2.2.2⟩
  · have b := h3.2.2 x hx
    exact ⟨b.1, b.2.1, by rw [upz_ne _ _ (ninF x hx)]; exact b.2.2⟩
  · have e1 := lns_up (P := P) (r := r) (l := P r ++ [p]) (n := 32) hr.1 (by omega)
    simp only [List.length_append, List.length_cons, List.length_nil] at e1 h5 ⊢
    omega
theorem ln_new1 {p : Int} {F2 : List Int} (h : LnF N B fi la su ca nx us fr P F [] ow) (hF : F = p :: F2) : fr = p ∧ LnF N B fi la su ca nx us (nx p) P F2 [p] (upz ow p 33) := by
  subst hF
  obtain ⟨h1, h2, h3, h4, h5⟩ := h
  have hp := h3.2.2 p List.mem_cons_self
  have hnd := List.nodup_cons.mp h3.2.1
  refine ⟨h3.1.1, h1, fun j hj1 hj2 => ?_, ⟨h3.1.2, hnd.2, fun x hx => ?_⟩, ⟨by simp, fun x hx => ?_⟩, ?_⟩
  · obtain ⟨a1, a2, a3, a4, a5⟩ := h2 j hj1 hj2
    refine ⟨a1, a2, a3, a4, fun x hx => ?_⟩
    have b := a5 x hx
    exact ⟨b.1, b.2.1, by rw [upz_ne _ _ (fun e => by have := b.2.2.1; rw [e, hp.2.2] at this; omega)]; exact b.2.2.1, b.2.2.2⟩
  · have b := h3.2.2 x (List.mem_cons_of_mem _ hx)
    have e0 : x ≠ p := fun e => hnd.1 (e ▸ hx)
    exact ⟨b.1, b.2.1, by rw [upz_ne _ _ e0]; exact b.2.2⟩
  · rw [List.mem_singleton.mp hx]
    exact ⟨hp.1, hp.2.1, upz_self _ _ _⟩
  · simp only [List.length_cons, List.length_nil] at h5 ⊢
    omega
theorem ln_new2 (h : LnF N B fi la su ca nx us fr P [] [] ow) (hN : us + 1 ≤ N) (hB : us + 1 ≤ B) : LnF N B fi la su ca nx (us + 1) fr P [] [us] (upz ow us 33) := by
  obtain ⟨h1, h2, h3, h4, h5⟩ := h
  refine ⟨⟨h1.1, by omega, hN, hB⟩, fun j hj1 hj2 => ?_, ⟨h3.1, h3.2.1, fun x hx => absurd hx List.not_mem_nil⟩, ⟨by simp, fun x hx => ?_⟩, ?_⟩
  · obtain ⟨a1, a2, a3, a4, a5⟩ := h2 j hj1 hj2
    refine ⟨a1, a2, a3, a4, fun x hx => ?_⟩
    have b := a5 x hx
    exact ⟨b.1, by omega, by rw [upz_ne _ _ (by omega)]; exact b.2.2.1, b.2.2.2⟩
  · rw [List.mem_singleton.mp hx]
    exact ⟨h1.2.1, by omega, upz_self _ _ _⟩
  · simp only [List.length_cons, List.length_nil] at h5 ⊢
    omega
theorem ln_agree {N2 : Nat} {fi2 la2 su2 ca2 nx2 : Int → Int} (h : LnF N B fi la su ca nx us fr P F X ow) (hN : pw N2) (hu : us ≤ N2) (h16 : ∀ r : Int, 0 ≤ r → r < 32 → fi2 r = fi r ∧ la2 r = la r ∧ su2 r = su r) (hx : ∀ x : Int, 0 ≤ x → x < us → ca2 x = ca x ∧ nx2 x = nx x) : LnF N2 B fi2 la2 su2 ca2 nx2 us fr P F X ow := by
  obtain ⟨h1, h2, h3, h4, h5⟩ := h
  refine ⟨⟨hN, h1.2.1, hu, h1.2.2.2⟩, fun j hj1 hj2 => ?_, ⟨Chn.congr (fun x hx2 => (hx x (h3.2.2 x hx2).1 (h3.2.2 x hx2).2.1).2) h3.1, h3.2⟩, h4, h5⟩
  obtain ⟨a1, a2, a3, a4, a5⟩ := h2 j hj1 hj2
  obtain ⟨c1, c2, c3⟩ := h16 j hj1 hj2
  refine ⟨by rw [c1]; exact Chn.congr (fun x hx2 => (hx x (a5 x hx2).1 (a5 x hx2).2.1).2) a1, a2, by rw [c2]; exact a3, ?_, fun x hx2 => ?_⟩
  · rw [c3, a4]
    exact sumz_congr (fun x hx2 => ((hx x (a5 x hx2).1 (a5 x hx2).2.1).1).symm)
  · have b := a5 x hx2
    exact ⟨b.1, b.2.1, b.2.2.1, by rw [(hx x b.1 b.2.1).1]; exact b.2.2.2⟩
end LN
