section ZENDS2
variable {p : Program} {l : Launch} {e : Env} {R : Room} {s : State} {m : MethodId} {args : Array Value} {below : List Frame} {meth : Method} {c : Code} {H : Heap} {locs : List Loc} {cells slots : Nat} {Q : State → Prop}
variable {cc : ByteArray} {pc : Nat} {ls : Array Slot} {rest : List Value}
variable {D : va_G} {L : List zC} {ad : Nat → Nat} {cI : Nat → ClassId} {M : zM} {H0 : Heap}
variable {y : MethodName} {bytes : ByteArray} {maxL nL n index : Nat} {ret : Option FieldType} {rm : Room} {own C host : String} {As st0 : List Value}
theorem z_callSi {post : Int → zM → Prop} (hF : zB p s m meth c cc nL own) (hM : zMi l y (.code y bytes maxL ret) rm D L ad cI M As post) (cw : CallB R s args own index y bytes maxL ret [.code y bytes maxL ret] rm 0 0 n ∧ (Cond.static y).before args s = true) (hK : zK D cI s) (hX : zX D L ad cI M H) (hS : va_S (zA ad L) H0 H locs) (hn : As.length = n) (hls : ls.size = nL) (hst : st0 = As.reverse ++ rest) (hro : (rest.map fun v => v.category).sum ≤ 8) (hdg : decode cc pc = .ok (.invokestatic index, 3)) (hf : cells ≤ R.cells ∧ slots ≤ R.slots)
    (kk : ∀ (z : Int) (u : zM) (H1 : Heap) (locs1 : List Loc), (-2147483648 ≤ z ∧ z ≤ 2147483647) → post z u → zX D L ad cI u H1 → va_S (zA ad L) H0 H1 locs1 → W p l e R s m args below meth c H1 locs1 cells slots Q (F0 m (pc + 3) ls (.int (zI z) :: rest))) : W p l e R s m args below meth c H locs cells slots Q (F0 m pc ls st0) := by
  refine va_calli (va_runS (As := As) (rest := rest) (Ts := []) ⟨hF.1, hF.2.1, hF.2.2.1, hF.2.2.2.1, fun _ h => nomatch h⟩ hM cw ⟨z_blind, fun U hU hW => ⟨rfl, by rw [hU]; exact hX, zK.warm hW hK⟩⟩ rfl hn hls hst (lv_room hro) hdg hf) hS (fun q _ h => h) (fun q h => h) (fun r u t H1 locs1 ht hvm hp hB _ _ hS1 => ?_)
  obtain ⟨rfl, hz, hp⟩ := hp
  exact kk u.1 u.2 H1 locs1 hz hp (by rw [← ht]; exact hB) hS1
end ZENDS2
