/-! ===== more rows, and plain facts ===== -/
section ZMore
variable {p : Program} {l : Launch} {e : Env} {R : Room} {s : State} {m : MethodId} {args : Array Value} {below : List Frame} {meth : Method} {c : Code} {D : va_G} {K : tyK} {A : Nat → Prop} {nL : Nat} {Q : State → Prop} {cells slots : Nat} {ws : va_W} {pc : Nat} {lv : List (Nat × Value)} {st : List Value}
/-- an array's contents count below its length alone -/
theorem z_rep {a n : Nat} {cA : ClassId} {g g2 : Int → Int} (q0 : Nat) (ha : ws[q0]? = some (a, .inl (cA, n, .inl (ar g)))) (hg : ∀ j : Int, 0 ≤ j → j < n → g j = g2 j) (kk : Zw p l e R s m args below meth c D A nL Q cells slots (ws.set q0 (a, .inl (cA, n, .inl (ar g2)))) pc lv st) : Zw p l e R s m args below meth c D A nL Q cells slots ws pc lv st := fun H locs ls hP hD hS h => by
  refine kk H locs ls (hP.set hD ha ?_ (fun _ _ => rfl)) (hD.set ha) hS h
  have h1 := hP q0 _ ha
  show H[a]? = some (vp_cell cA (n, .inl (ar g2)))
  rw [show H[a]? = some (vp_cell cA (n, .inl (ar g))) from h1]
  refine congrArg some ?_
  rw [vp_cell_i, vp_cell_i]
  unfold arrV
  refine congrArg (fun z => ({ cls := cA, slots := z, vm := .none } : Cell)) ?_
  refine congrArg Array.ofFn (funext fun j => ?_)
  show Value.int (ar g j.val) = Value.int (ar g2 j.val)
  unfold ar
  rw [hg (j.val : Int) (by omega) (by have := j.isLt; omega)]
theorem z_nm {x : Int} (kk : ∀ v : Int, v = x → Zw p l e R s m args below meth c D A nL Q cells slots ws pc lv (vZ v :: st)) : Zw p l e R s m args below meth c D A nL Q cells slots ws pc lv (vZ x :: st) := kk x rfl
theorem z_st {st2 : List Value} (hs : st = st2) (kk : Zw p l e R s m args below meth c D A nL Q cells slots ws pc lv st2) : Zw p l e R s m args below meth c D A nL Q cells slots ws pc lv st := hs ▸ kk
end ZMore
