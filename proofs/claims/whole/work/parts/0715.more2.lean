/-! more of the model: what is told -/
def xTell (M : zM) (p what : Int) : Int := if what = 0 then M 19 p else if what = 1 then M 20 p else if what = 2 then M 21 p else if what = 3 then M 22 p else if what = 4 then M 23 p else M 24 p
def xIn (M : zM) (r what : Int) : Int := if what = 0 then M 6 r else if what = 1 then M 7 r else M 8 r
theorem xRoomsAdd_c {M : zM} {v : Int} {c : Nat} (h5 : c ≠ 5) (h1 : c ≠ 1) : xRoomsAdd M v c = M c := by
  unfold xRoomsAdd
  rw [zU_k h1, zU_k h5]
theorem xRoomsAdd_1 {M : zM} {v : Int} : xRoomsAdd M v 1 0 = M 1 0 + 1 := by
  unfold xRoomsAdd
  rw [zU_s]
theorem xShiftN_c {t n : Int} {c : Nat} (h : c ≠ 19) : ∀ (k : Nat) (M : zM), (xShiftN t n k M).2 c = M c
  | 0, M => rfl
  | k + 1, M => by
    unfold xShiftN
    split
    · rw [xShiftN_c h k]; exact zU_k h
    · rfl
theorem xPersAdd_c {M : zM} {t n : Int} {c : Nat} (h9 : c ≠ 19) (h4 : c ≠ 4) : xPersAdd M t n c = M c := by
  unfold xPersAdd
  show zU _ 4 1 _ c = M c
  rw [zU_k h4, xPutN_c h9, xShiftN_c h9]
theorem xPersAdd_41 {M : zM} {t n : Int} : xPersAdd M t n 4 1 = M 4 1 + n := by
  unfold xPersAdd
  exact zU_s
section ZBM
variable {p : Program} {l : Launch} {e : Env} {R : Room} {s : State} {m : MethodId} {args : Array Value} {below : List Frame} {meth : Method} {c : Code} {H : Heap} {locs : List Loc} {cells slots : Nat} {Q : State → Prop}
variable {pc : Nat} {ls : Array Slot} {rest : List Value}
theorem z_bm {z : Int} (k : W p l e R s m args below meth c H locs cells slots Q (F0 m pc ls (.int (zI (bm z)) :: rest))) : W p l e R s m args below meth c H locs cells slots Q (F0 m pc ls (.int (zI z) :: rest)) := by
  rw [bm_zI] at k
  exact k
end ZBM
