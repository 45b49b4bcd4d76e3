/-! Own layer: small longs, bytes -/
def lI (z : Int) : Int64 := Int64.ofInt z
theorem lI_toInt {a : Int} (h : -4611686018427387904 ≤ a ∧ a ≤ 4611686018427387904) : (lI a).toInt = a := Int64.toInt_ofInt_of_le (by omega) (by omega)
theorem lI_zI {a : Int} (h : -2147483648 ≤ a ∧ a ≤ 2147483647) : (zI a).toInt64 = lI a := by
  apply Int64.toInt_inj.mp
  rw [Int32.toInt_toInt64, zI_toInt h, lI_toInt (by omega)]
theorem lI_sub (a b : Int) : lI a - lI b = lI (a - b) := (Int64.ofInt_sub a b).symm
theorem lI_add (a b : Int) : lI a + lI b = lI (a + b) := (Int64.ofInt_add a b).symm
theorem lI_mul (a b : Int) : lI a * lI b = lI (a * b) := (Int64.ofInt_mul a b).symm
theorem lI_lt {a b : Int} (h : (-4611686018427387904 ≤ a ∧ a ≤ 4611686018427387904) ∧ -4611686018427387904 ≤ b ∧ b ≤ 4611686018427387904) : lI a < lI b ↔ a < b := by
  rw [Int64.lt_iff_toInt_lt, lI_toInt h.1, lI_toInt h.2]
theorem lI_eq {a b : Int} (h : (-4611686018427387904 ≤ a ∧ a ≤ 4611686018427387904) ∧ -4611686018427387904 ≤ b ∧ b ≤ 4611686018427387904) : lI a = lI b ↔ a = b := by
  rw [← Int64.toInt_inj, lI_toInt h.1, lI_toInt h.2]
/-- a comparison's answer -/
def zSg (a b : Int) : Int := if a < b then -1 else if a = b then 0 else 1
section ZLONG
variable {p : Program} {l : Launch} {e : Env} {R : Room} {s : State} {m : MethodId} {args : Array Value} {below : List Frame} {meth : Method} {c : Code} {H : Heap} {locs : List Loc} {cells slots : Nat} {Q : State → Prop}
variable {cc : ByteArray} {pc : Nat} {ls : Array Slot} {rest : List Value}
variable {D : va_G} {cI : Nat → ClassId}
theorem z_i2l (hx : p.tables.exec = Jvm.exec) (hb : c.code = cc) {a : Int} (h : -2147483648 ≤ a ∧ a ≤ 2147483647) (hdg : decode cc pc = .ok (.i2l, 1))
    (k : W p l e R s m args below meth c H locs cells slots Q (F0 m (pc + 1) ls (.long (lI a) :: rest))) : W p l e R s m args below meth c H locs cells slots Q (F0 m pc ls (.int (zI a) :: rest)) := lv_i2l hx hb hdg (lI_zI h) k
theorem z_lconst (hx : p.tables.exec = Jvm.exec) (hb : c.code = cc) {n : Fin 2} {v : Int} (hdg : decode cc pc = .ok (.lconst n, 1)) (hv : Int64.ofNat (n : Nat) = lI v)
    (k : W p l e R s m args below meth c H locs cells slots Q (F0 m (pc + 1) ls (.long (lI v) :: rest))) : W p l e R s m args below meth c H locs cells slots Q (F0 m pc ls rest) := lv_lconst hx hb hdg hv k
theorem z_ldcl (hx : p.tables.exec = Jvm.exec) (hb : c.code = cc) {own : String} {index : Nat} {v : Int} {x : Int64} (hown : s.vm.findClass own = some m.cls) (hK : zK D cI s) (hconst : Jvm.Cond.constantLong own index x ∈ lw_tbl) (hv : x = lI v) (hdg : decode cc pc = .ok (.ldc2_w index, 3))
    (k : W p l e R s m args below meth c H locs cells slots Q (F0 m (pc + 3) ls (.long (lI v) :: rest))) : W p l e R s m args below meth c H locs cells slots Q (F0 m pc ls rest) := by
  subst hv
  exact z_ldc2 hx hb hown hK hconst hdg k
theorem z_lsub (hx : p.tables.exec = Jvm.exec) (hb : c.code = cc) {a b : Int} (hdg : decode cc pc = .ok (.lsub, 1))
    (k : W p l e R s m args below meth c H locs cells slots Q (F0 m (pc + 1) ls (.long (lI (a - b)) :: rest))) : W p l e R s m args below meth c H locs cells slots Q (F0 m pc ls (.long (lI b) :: .long (lI a) :: rest)) := lv_lsub hx hb hdg (by rw [lI_sub]; exact k)
theorem z_lcmp (hx : p.tables.exec = Jvm.exec) (hb : c.code = cc) {a b : Int} (hr : (-4611686018427387904 ≤ a ∧ a ≤ 4611686018427387904) ∧ -4611686018427387904 ≤ b ∧ b ≤ 4611686018427387904) (hdg : decode cc pc = .ok (.lcmp, 1))
    (k : W p l e R s m args below meth c H locs cells slots Q (F0 m (pc + 1) ls (.int (zI (zSg a b)) :: rest))) : W p l e R s m args below meth c H locs cells slots Q (F0 m pc ls (.long (lI b) :: .long (lI a) :: rest)) := by
  refine W.lcmp hx hb hdg ?_
  have e : lg_cmp (lI a) (lI b) = zI (zSg a b) := by
    unfold lg_cmp zSg
    by_cases h1 : a < b
    · have g1 := (lI_lt hr).mpr h1
      first
        | (rw [if_pos h1, if_pos g1]; rfl)
        | (simp [h1, g1, lg_lt_not g1]; rfl)
        | (simp only [h1, g1, lg_lt_not g1, lg_lt_ne g1, if_true, if_false]; rfl)
    · have g1 : ¬ lI a < lI b := fun q => h1 ((lI_lt hr).mp q)
      by_cases h2 : a = b
      · subst h2
        first
          | (rw [if_neg h1, if_pos rfl, if_neg g1, if_pos rfl]; rfl)
          | (simp [g1]; rfl)
      · have g2 : ¬ lI a = lI b := fun q => h2 ((lI_eq hr).mp q)
        have g3 : lI b < lI a := (lI_lt ⟨hr.2, hr.1⟩).mpr (by omega)
        first
          | (rw [if_neg h1, if_neg h2, if_neg g1, if_neg g2]; rfl)
          | (simp [h1, h2, g1, g2, g3]; rfl)
  rw [e]; exact k
theorem z_i2b (hx : p.tables.exec = Jvm.exec) (hb : c.code = cc) {v : Int} (h : -128 ≤ v ∧ v ≤ 127) (hdg : decode cc pc = .ok (.i2b, 1))
    (k : W p l e R s m args below meth c H locs cells slots Q (F0 m (pc + 1) ls (.int (zI v) :: rest))) : W p l e R s m args below meth c H locs cells slots Q (F0 m pc ls (.int (zI v) :: rest)) := lv_i2b hx hb hdg (zI_byte h) k
end ZLONG
