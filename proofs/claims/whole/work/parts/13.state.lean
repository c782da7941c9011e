/-! ===== what a state is: the objects with their arrays, by the numbers of their fields ===== -/
abbrev Bd : Type := (Nat → Int → Int) × (Nat → Int)
/-- ShadowRoads$Crowds -/
abbrev wCr (K : tyK) (h : Nat) (a : Nat → Nat) (S : Bd) : va_W := [(h, .inr (0, [.ref (a 0), .ref (a 1), .ref (a 2), vZ (S.2 3), vZ (S.2 4)])), (a 0, .inl (K.1, 8, .inl (ar (S.1 0)))), (a 1, .inl (K.1, 8, .inl (ar (S.1 1)))), (a 2, .inl (K.1, 8, .inl (ar (S.1 2))))]
/-- ShadowRoads$Foresight -/
abbrev wFo (K : tyK) (h : Nat) (a : Nat → Nat) (S : Bd) : va_W := [(h, .inr (1, [.ref (a 0), .ref (a 1), .ref (a 2), .ref (a 3), .ref (a 4), vZ (S.2 5), vZ (S.2 6), vZ (S.2 7), vZ (S.2 8), vZ (S.2 9), vZ (S.2 10), vZ (S.2 11)])), (a 2, .inl (K.1, 10, .inl (ar (S.1 2)))), (a 3, .inl (K.1, 4, .inl (ar (S.1 3)))), (a 4, .inl (K.1, 4, .inl (ar (S.1 4))))]
/-- ShadowRoads$Lines -/
abbrev wLn (K : tyK) (h : Nat) (a : Nat → Nat) (N : Nat) (S : Bd) : va_W := [(h, .inr (2, [.ref (a 0), .ref (a 1), .ref (a 2), .ref (a 3), .ref (a 4), .ref (a 5), .ref (a 6), vZ (S.2 7), vZ (S.2 8)])), (a 0, .inl (K.1, 32, .inl (ar (S.1 0)))), (a 1, .inl (K.1, 32, .inl (ar (S.1 1)))), (a 2, .inl (K.1, 32, .inl (ar (S.1 2)))), (a 3, .inl (K.1, N, .inl (ar (S.1 3)))), (a 4, .inl (K.1, N, .inl (ar (S.1 4)))), (a 5, .inl (K.1, N, .inl (ar (S.1 5)))), (a 6, .inl (K.1, N, .inl (ar (S.1 6))))]
/-- ShadowRoads$Log -/
abbrev wLo (K : tyK) (h : Nat) (a : Nat → Nat) (S : Bd) : va_W := [(h, .inr (3, [.ref (a 0), .ref (a 1), .ref (a 2)])), (a 0, .inl (K.1, 200, .inl (ar (S.1 0)))), (a 1, .inl (K.1, 200, .inl (ar (S.1 1)))), (a 2, .inl (K.1, 200, .inl (ar (S.1 2))))]
/-- ShadowRoads$Net -/
abbrev wNe (K : tyK) (h : Nat) (a : Nat → Nat) (S : Bd) : va_W := [(h, .inr (4, [.ref (a 0), .ref (a 1), .ref (a 2), .ref (a 3), .ref (a 4), .ref (a 5), .ref (a 6), .ref (a 7), vZ (S.2 8)])), (a 0, .inl (K.1, 16, .inl (ar (S.1 0)))), (a 1, .inl (K.1, 16, .inl (ar (S.1 1)))), (a 2, .inl (K.1, 16, .inl (ar (S.1 2)))), (a 3, .inl (K.1, 16, .inl (ar (S.1 3)))), (a 4, .inl (K.1, 16, .inl (ar (S.1 4)))), (a 5, .inl (K.1, 16, .inl (ar (S.1 5)))), (a 6, .inl (K.1, 100, .inl (ar (S.1 6)))), (a 7, .inl (K.1, 100, .inl (ar (S.1 7))))]
/-- ShadowRoads$Towns -/
abbrev wTo (K : tyK) (h : Nat) (a : Nat → Nat) (S : Bd) : va_W := [(h, .inr (5, [.ref (a 0), .ref (a 1), vZ (S.2 2), vZ (S.2 3)])), (a 0, .inl (K.1, 10, .inl (ar (S.1 0)))), (a 1, .inl (K.1, 10, .inl (ar (S.1 1))))]
/-- ShadowRoads$Traffic -/
abbrev wTr (K : tyK) (h : Nat) (a : Nat → Nat) (S : Bd) : va_W := [(h, .inr (6, [.ref (a 0), .ref (a 1), .ref (a 2), .ref (a 3), .ref (a 5), .ref (a 6), .ref (a 7), .ref (a 8), .ref (a 9), .ref (a 10), .ref (a 11), vZ (S.2 12), vZ (S.2 13), vZ (S.2 14), vZ (S.2 15)])), (a 5, .inl (K.1, 8, .inl (ar (S.1 5)))), (a 6, .inl (K.1, 8, .inl (ar (S.1 6)))), (a 7, .inl (K.1, 8, .inl (ar (S.1 7)))), (a 8, .inl (K.1, 10, .inl (ar (S.1 8)))), (a 9, .inl (K.1, 10, .inl (ar (S.1 9)))), (a 10, .inl (K.1, 10, .inl (ar (S.1 10)))), (a 11, .inl (K.1, 16, .inl (ar (S.1 11))))]
/-- ShadowRoadsModel -/
abbrev wMo (K : tyK) (h : Nat) (a : Nat → Nat) (S : Bd) : va_W := [(h, .inr (8, [vZ (S.2 0), .ref (a 1), .ref (a 2), vZ (S.2 3), vZ (S.2 4), .ref (a 5), .ref (a 6), .ref (a 7), .ref (a 8), .ref (a 9), .ref (a 10), .ref (a 11), vZ (S.2 12), .ref (a 13), .ref (a 14), .ref (a 15), .ref (a 16), .ref (a 17), .ref (a 18), .ref (a 19), vZ (S.2 20), vZ (S.2 21), .ref (a 22), .ref (a 23), .ref (a 24), .ref (a 25), .ref (a 26), .ref (a 27), .ref (a 28), .ref (a 29), .ref (a 30), .ref (a 31), .ref (a 32), .ref (a 33), vZ (S.2 34), .ref (a 35), vZ (S.2 36), vZ (S.2 37), vZ (S.2 38), .ref (a 39), .ref (a 40), vZ (S.2 41), vZ (S.2 42), vZ (S.2 43)])), (a 1, .inl (K.1, 10, .inl (ar (S.1 1)))), (a 2, .inl (K.1, 10, .inl (ar (S.1 2)))), (a 5, .inl (K.1, 16, .inl (ar (S.1 5)))), (a 6, .inl (K.1, 16, .inl (ar (S.1 6)))), (a 7, .inl (K.1, 16, .inl (ar (S.1 7)))), (a 8, .inl (K.1, 16, .inl (ar (S.1 8)))), (a 9, .inl (K.1, 16, .inl (ar (S.1 9)))), (a 10, .inl (K.1, 16, .inl (ar (S.1 10)))), (a 11, .inl (K.1, 100, .inl (ar (S.1 11)))), (a 13, .inl (K.1, 8, .inl (ar (S.1 13)))), (a 14, .inl (K.1, 8, .inl (ar (S.1 14)))), (a 15, .inl (K.1, 8, .inl (ar (S.1 15)))), (a 16, .inl (K.1, 8, .inl (ar (S.1 16)))), (a 17, .inl (K.1, 3200, .inl (ar (S.1 17)))), (a 18, .inl (K.1, 3200, .inl (ar (S.1 18)))), (a 19, .inl (K.2.1, 3200, .inl (ar (S.1 19)))), (a 22, .inl (K.1, 3400, .inl (ar (S.1 22)))), (a 23, .inl (K.1, 3400, .inl (ar (S.1 23)))), (a 24, .inl (K.1, 3400, .inl (ar (S.1 24)))), (a 25, .inl (K.1, 3400, .inl (ar (S.1 25)))), (a 26, .inl (K.1, 32, .inl (ar (S.1 26)))), (a 27, .inl (K.1, 32, .inl (ar (S.1 27)))), (a 28, .inl (K.2.1, 8, .inl (ar (S.1 28)))), (a 29, .inl (K.1, 8, .inl (ar (S.1 29)))), (a 30, .inl (K.1, 8, .inl (ar (S.1 30)))), (a 31, .inl (K.1, 10, .inl (ar (S.1 31)))), (a 32, .inl (K.1, 10, .inl (ar (S.1 32)))), (a 33, .inl (K.1, 10, .inl (ar (S.1 33)))), (a 35, .inl (K.1, 13711, .inl (ar (S.1 35)))), (a 39, .inl (K.1, 4, .inl (ar (S.1 39)))), (a 40, .inl (K.1, 4, .inl (ar (S.1 40))))]
theorem new_fs_X0 : ∀ j, j < 5 → defaultValue (tyX0 j) = vp_V [.null, .null, .null, vZ 0, vZ 0] j := by
  intro j hj
  rcases (show j = 0 ∨ j = 1 ∨ j = 2 ∨ j = 3 ∨ j = 4 by omega) with rfl | rfl | rfl | rfl | rfl <;> rfl
theorem new_fs_X1 : ∀ j, j < 12 → defaultValue (tyX1 j) = vp_V [.null, .null, .null, .null, .null, vZ 0, vZ 0, vZ 0, vZ 0, vZ 0, vZ 0, vZ 0] j := by
  intro j hj
  rcases (show j = 0 ∨ j = 1 ∨ j = 2 ∨ j = 3 ∨ j = 4 ∨ j = 5 ∨ j = 6 ∨ j = 7 ∨ j = 8 ∨ j = 9 ∨ j = 10 ∨ j = 11 by omega) with rfl | rfl | rfl | rfl | rfl | rfl | rfl | rfl | rfl | rfl | rfl | rfl <;> rfl
theorem new_fs_X2 : ∀ j, j < 9 → defaultValue (tyX2 j) = vp_V [.null, .null, .null, .null, .null, .null, .null, vZ 0, vZ 0] j := by
  intro j hj
  rcases (show j = 0 ∨ j = 1 ∨ j = 2 ∨ j = 3 ∨ j = 4 ∨ j = 5 ∨ j = 6 ∨ j = 7 ∨ j = 8 by omega) with rfl | rfl | rfl | rfl | rfl | rfl | rfl | rfl | rfl <;> rfl
theorem new_fs_X3 : ∀ j, j < 3 → defaultValue (tyX3 j) = vp_V [.null, .null, .null] j := by
  intro j hj
  rcases (show j = 0 ∨ j = 1 ∨ j = 2 by omega) with rfl | rfl | rfl <;> rfl
theorem new_fs_X4 : ∀ j, j < 9 → defaultValue (tyX4 j) = vp_V [.null, .null, .null, .null, .null, .null, .null, .null, vZ 0] j := by
  intro j hj
  rcases (show j = 0 ∨ j = 1 ∨ j = 2 ∨ j = 3 ∨ j = 4 ∨ j = 5 ∨ j = 6 ∨ j = 7 ∨ j = 8 by omega) with rfl | rfl | rfl | rfl | rfl | rfl | rfl | rfl | rfl <;> rfl
theorem new_fs_X5 : ∀ j, j < 4 → defaultValue (tyX5 j) = vp_V [.null, .null, vZ 0, vZ 0] j := by
  intro j hj
  rcases (show j = 0 ∨ j = 1 ∨ j = 2 ∨ j = 3 by omega) with rfl | rfl | rfl | rfl <;> rfl
theorem new_fs_X6 : ∀ j, j < 15 → defaultValue (tyX6 j) = vp_V [.null, .null, .null, .null, .null, .null, .null, .null, .null, .null, .null, vZ 0, vZ 0, vZ 0, vZ 0] j := by
  intro j hj
  rcases (show j = 0 ∨ j = 1 ∨ j = 2 ∨ j = 3 ∨ j = 4 ∨ j = 5 ∨ j = 6 ∨ j = 7 ∨ j = 8 ∨ j = 9 ∨ j = 10 ∨ j = 11 ∨ j = 12 ∨ j = 13 ∨ j = 14 by omega) with rfl | rfl | rfl | rfl | rfl | rfl | rfl | rfl | rfl | rfl | rfl | rfl | rfl | rfl | rfl <;> rfl
theorem new_fs_X7 : ∀ j, j < 6 → defaultValue (tyX7 j) = vp_V [.null, .null, .null, .null, .null, .null] j := by
  intro j hj
  rcases (show j = 0 ∨ j = 1 ∨ j = 2 ∨ j = 3 ∨ j = 4 ∨ j = 5 by omega) with rfl | rfl | rfl | rfl | rfl | rfl <;> rfl
theorem new_fs_X8 : ∀ j, j < 44 → defaultValue (tyX8 j) = vp_V [vZ 0, .null, .null, vZ 0, vZ 0, .null, .null, .null, .null, .null, .null, .null, vZ 0, .null, .null, .null, .null, .null, .null, .null, vZ 0, vZ 0, .null, .null, .null, .null, .null, .null, .null, .null, .null, .null, .null, .null, vZ 0, .null, vZ 0, vZ 0, vZ 0, .null, .null, vZ 0, vZ 0, vZ 0] j := by
  intro j hj
  rcases (show j = 0 ∨ j = 1 ∨ j = 2 ∨ j = 3 ∨ j = 4 ∨ j = 5 ∨ j = 6 ∨ j = 7 ∨ j = 8 ∨ j = 9 ∨ j = 10 ∨ j = 11 ∨ j = 12 ∨ j = 13 ∨ j = 14 ∨ j = 15 ∨ j = 16 ∨ j = 17 ∨ j = 18 ∨ j = 19 ∨ j = 20 ∨ j = 21 ∨ j = 22 ∨ j = 23 ∨ j = 24 ∨ j = 25 ∨ j = 26 ∨ j = 27 ∨ j = 28 ∨ j = 29 ∨ j = 30 ∨ j = 31 ∨ j = 32 ∨ j = 33 ∨ j = 34 ∨ j = 35 ∨ j = 36 ∨ j = 37 ∨ j = 38 ∨ j = 39 ∨ j = 40 ∨ j = 41 ∨ j = 42 ∨ j = 43 by omega) with rfl | rfl | rfl | rfl | rfl | rfl | rfl | rfl | rfl | rfl | rfl | rfl | rfl | rfl | rfl | rfl | rfl | rfl | rfl | rfl | rfl | rfl | rfl | rfl | rfl | rfl | rfl | rfl | rfl | rfl | rfl | rfl | rfl | rfl | rfl | rfl | rfl | rfl | rfl | rfl | rfl | rfl | rfl | rfl <;> rfl
section ZSw
variable {p : Program} {l : Launch} {e : Env} {R : Room} {s : State} {m : MethodId} {args : Array Value} {below : List Frame} {meth : Method} {c : Code} {D : va_G} {K : tyK} {A : Nat → Prop} {nL : Nat} {Q : State → Prop} {cells slots : Nat} {ws : va_W} {pc : Nat} {lv : List (Nat × Value)} {st : List Value} {cc : ByteArray} {own : String}
theorem z_tabIn (C : Zc p s m args c D K A nL cc own) {x : Int} {dflt lo hi : Int} {offs : Array Int} {len : Nat} {off : Int} (tgt : Nat) (hdg : decode cc pc = .ok (.tableswitch dflt lo hi offs, len)) (hx : -2147483648 ≤ x ∧ x < 2147483648) (h1 : lo ≤ x) (h2 : x ≤ hi) (ho : offs[(x - lo).toNat]? = some off) (ht : (pc : Int) + off = (tgt : Int)) (kk : Zw p l e R s m args below meth c D A nL Q cells slots ws tgt lv st) : Zw p l e R s m args below meth c D A nL Q cells slots ws pc lv (vZ x :: st) := fun H locs ls hP hD hS h =>
  lv_tableIn C.1 C.2.1 hdg (by rw [iI_toInt hx]; omega) (by rw [iI_toInt hx]; omega) (by rw [iI_toInt hx]; exact ho) ht (kk H locs ls hP hD hS h)
theorem z_tabOut (C : Zc p s m args c D K A nL cc own) {x : Int} {dflt lo hi : Int} {offs : Array Int} {len : Nat} (tgt : Nat) (hdg : decode cc pc = .ok (.tableswitch dflt lo hi offs, len)) (hx : -2147483648 ≤ x ∧ x < 2147483648) (h1 : x < lo ∨ hi < x) (ht : (pc : Int) + dflt = (tgt : Int)) (kk : Zw p l e R s m args below meth c D A nL Q cells slots ws tgt lv st) : Zw p l e R s m args below meth c D A nL Q cells slots ws pc lv (vZ x :: st) := fun H locs ls hP hD hS h =>
  lv_tableOut C.1 C.2.1 hdg (by rw [iI_toInt hx]; exact h1) ht (kk H locs ls hP hD hS h)
theorem z_look (C : Zc p s m args c D K A nL cc own) {x : Int} {dflt : Int} {ps : Array (Int × Int)} {len : Nat} {off : Int} (tgt : Nat) (hdg : decode cc pc = .ok (.lookupswitch dflt ps, len)) (hx : -2147483648 ≤ x ∧ x < 2147483648) (hp : (ps.toList.zip (ps.toList.drop 1)).all (fun (a, next) => a.1 < next.1) = true) (ho : Op.lookupswitch.offset ps.toList dflt x = off) (ht : (pc : Int) + off = (tgt : Int)) (kk : Zw p l e R s m args below meth c D A nL Q cells slots ws tgt lv st) : Zw p l e R s m args below meth c D A nL Q cells slots ws pc lv (vZ x :: st) := fun H locs ls hP hD hS h =>
  lv_lookup C.1 C.2.1 hdg hp (by rw [iI_toInt hx]; exact ho) ht (kk H locs ls hP hD hS h)
end ZSw
