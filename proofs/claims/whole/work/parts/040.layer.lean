/-! Own layer: a memory of whole numbers over a fixed row of cells. Cell k of the row L is an object (its class's place, its fields) or an array (0: of ints, 1: of bytes; its length); what it holds is M k. -/
def zI (z : Int) : Int32 := Int32.ofInt z
theorem zI_add (a b : Int) : zI a + zI b = zI (a + b) := (Int32.ofInt_add a b).symm
theorem zI_sub (a b : Int) : zI a - zI b = zI (a - b) := (Int32.ofInt_sub a b).symm
theorem zI_mul (a b : Int) : zI a * zI b = zI (a * b) := (Int32.ofInt_mul a b).symm
theorem zI_toInt {a : Int} (h : -2147483648 ≤ a ∧ a ≤ 2147483647) : (zI a).toInt = a := Int32.toInt_ofInt_of_le (by omega) (by omega)
theorem zI_of (x : Int32) : x = zI x.toInt := (Int32.ofInt_toInt x).symm
theorem zI_rg (x : Int32) : -2147483648 ≤ x.toInt ∧ x.toInt ≤ 2147483647 := by
  have h1 := Int32.le_toInt x
  have h2 := Int32.toInt_lt x
  omega
theorem zI_le {a b : Int} (h : (-2147483648 ≤ a ∧ a ≤ 2147483647) ∧ -2147483648 ≤ b ∧ b ≤ 2147483647) : zI a ≤ zI b ↔ a ≤ b := by
  rw [Int32.le_iff_toInt_le, zI_toInt h.1, zI_toInt h.2]
theorem zI_lt {a b : Int} (h : (-2147483648 ≤ a ∧ a ≤ 2147483647) ∧ -2147483648 ≤ b ∧ b ≤ 2147483647) : zI a < zI b ↔ a < b := by
  rw [Int32.lt_iff_toInt_lt, zI_toInt h.1, zI_toInt h.2]
theorem zI_eq {a b : Int} (h : (-2147483648 ≤ a ∧ a ≤ 2147483647) ∧ -2147483648 ≤ b ∧ b ≤ 2147483647) : zI a = zI b ↔ a = b := by
  rw [← Int32.toInt_inj, zI_toInt h.1, zI_toInt h.2]
theorem zI_0 : zI 0 = 0 := rfl
theorem zI_in {a : Int} {n : Nat} (h : 0 ≤ a ∧ a < n) (hn : n < 2147483648) : vp_in (zI a) n := by
  rw [vp_in_iff, zI_toInt (by omega)]
  exact h
theorem zI_cl {a : Int} {n : Nat} (h : 0 ≤ a ∧ a < n) (hn : n < 2147483648) : (zI a).toNatClampNeg = a.toNat := by
  show (zI a).toInt.toNat = a.toNat
  rw [zI_toInt (by omega)]
theorem zI_long {a : Int} (h : 1 ≤ a ∧ a ≤ 2147483647) : ¬ (zI a).toInt64 = 0 := by
  intro q
  have h1 : (zI a).toInt64.toInt = (0 : Int64).toInt := by rw [q]
  rw [Int32.toInt_toInt64, zI_toInt (by omega)] at h1
  have h2 : (0 : Int64).toInt = 0 := rfl
  omega
def bm (z : Int) : Int := (zI z).toInt
theorem bm_zI (z : Int) : zI (bm z) = zI z := (zI_of (zI z)).symm
theorem bm_rg (z : Int) : -2147483648 ≤ bm z ∧ bm z ≤ 2147483647 := zI_rg (zI z)
theorem bm_of {z : Int} (h : -2147483648 ≤ z ∧ z ≤ 2147483647) : bm z = z := zI_toInt h
abbrev zM : Type := Nat → Int → Int
def zU (M : zM) (k : Nat) (i v : Int) : zM := fun k' i' => if k' = k ∧ i' = i then v else M k' i'
theorem zU_k {M : zM} {k j : Nat} {i v : Int} (h : j ≠ k) : zU M k i v j = M j := by
  funext q
  simp [zU, h]
theorem zU_s {M : zM} {k : Nat} {i v : Int} : zU M k i v k i = v := by simp [zU]
theorem zU_n {M : zM} {k : Nat} {i j v : Int} (h : j ≠ i) : zU M k i v k j = M k j := by simp [zU, h]
/-- a field: a reference to a cell of the row, an int, a long that stays -/
abbrev zF : Type := Nat ⊕ (Unit ⊕ Int64)
abbrev zC : Type := (Nat × List zF) ⊕ (Nat × Nat)
def zFv (ad : Nat → Nat) (M : zM) (k j : Nat) (f : zF) : Value := match f with
  | .inl c => .ref (ad c)
  | .inr (.inl _) => .int (zI (M k j))
  | .inr (.inr x) => .long x
def zFs (ad : Nat → Nat) (M : zM) (k : Nat) : Nat → List zF → List Value
  | _, [] => []
  | j, f :: t => zFv ad M k j f :: zFs ad M k (j + 1) t
def zE (ad : Nat → Nat) (cI : Nat → ClassId) (M : zM) (k : Nat) (d : zC) : va_E := match d with
  | .inl o => .inr (o.1, zFs ad M k 0 o.2)
  | .inr n => .inl (cI n.1, n.2, .inl (fun q => zI (M k (q : Int))))
def zW (ad : Nat → Nat) (cI : Nat → ClassId) (M : zM) : Nat → List zC → va_W
  | _, [] => []
  | k, d :: t => (ad k, zE ad cI M k d) :: zW ad cI M (k + 1) t
theorem zFs_at (ad : Nat → Nat) (M : zM) (k : Nat) : ∀ (fs : List zF) (j0 j : Nat), (zFs ad M k j0 fs)[j]? = (fs[j]?).map (zFv ad M k (j0 + j))
  | [], j0, j => by simp [zFs]
  | f :: t, j0, 0 => by simp [zFs]
  | f :: t, j0, j + 1 => by
    simp only [zFs, List.getElem?_cons_succ]
    rw [zFs_at ad M k t (j0 + 1) j, show j0 + 1 + j = j0 + (j + 1) by omega]
theorem zFs_len (ad : Nat → Nat) (M : zM) (k : Nat) : ∀ (fs : List zF) (j0 : Nat), (zFs ad M k j0 fs).length = fs.length
  | [], _ => rfl
  | f :: t, j0 => by simp [zFs, zFs_len ad M k t (j0 + 1)]
theorem zW_at (ad : Nat → Nat) (cI : Nat → ClassId) (M : zM) : ∀ (L : List zC) (k0 k : Nat), (zW ad cI M k0 L)[k]? = (L[k]?).map (fun d => (ad (k0 + k), zE ad cI M (k0 + k) d))
  | [], k0, k => by simp [zW]
  | d :: t, k0, 0 => by simp [zW]
  | d :: t, k0, k + 1 => by
    simp only [zW, List.getElem?_cons_succ]
    rw [zW_at ad cI M t (k0 + 1) k, show k0 + 1 + k = k0 + (k + 1) by omega]
theorem zW_is {ad : Nat → Nat} {cI : Nat → ClassId} {M : zM} {L : List zC} {k : Nat} {d : zC} (h : L[k]? = some d) : (zW ad cI M 0 L)[k]? = some (ad k, zE ad cI M k d) := by
  rw [zW_at, h]; simp
theorem zW_put {ad : Nat → Nat} {cI : Nat → ClassId} {M M' : zM} {L : List zC} {k : Nat} {d : zC} {E : va_E} (h : L[k]? = some d) (he : zE ad cI M' k d = E) (ho : ∀ j, j ≠ k → M' j = M j) : (zW ad cI M 0 L).set k (ad k, E) = zW ad cI M' 0 L := by
  apply List.ext_getElem?
  intro j
  rw [List.getElem?_set]
  by_cases hj : k = j
  · subst hj
    have hl : k < (zW ad cI M 0 L).length := by
      rcases Nat.lt_or_ge k (zW ad cI M 0 L).length with q | q
      · exact q
      · have := List.getElem?_eq_none q
        rw [zW_is h] at this
        cases this
    rw [if_pos rfl, if_pos hl, zW_is h, he]
  · rw [if_neg hj, zW_at, zW_at]
    cases hd : L[j]? with
    | none => rfl
    | some d9 =>
      simp only [Option.map_some, Nat.zero_add]
      have e : M' j = M j := ho j (fun z => hj z.symm)
      congr 2
      cases d9 with
      | inl o =>
        simp only [zE]
        congr 2
        apply List.ext_getElem?
        intro i
        rw [zFs_at, zFs_at]
        congr 1
        funext f
        cases f with
        | inl c => rfl
        | inr f =>
          cases f with
          | inl u => simp only [zFv, e]
          | inr x => rfl
      | inr n => simp only [zE, e]
def zA (ad : Nat → Nat) (L : List zC) : Nat → Prop := fun q => ∃ k, k < L.length ∧ q = ad k
/-- the row L stands in the heap H and holds M -/
def zX (D : va_G) (L : List zC) (ad : Nat → Nat) (cI : Nat → ClassId) (M : zM) (H : Heap) : Prop :=
  va_P D zCl (zW ad cI M 0 L) H ∧ va_D (zA ad L) (zW ad cI M 0 L) ∧ ∀ k i, -2147483648 ≤ M k i ∧ M k i ≤ 2147483647
/-- the tables: the classes; the words that the start gave -/
def zK (D : va_G) (cI : Nat → ClassId) (U : State) : Prop := va_K D zCl [(cI 0, .int), (cI 1, .byte), (cI 2, .long)] U ∧ ∃ (a0 : Array Value) (s0 : State), s0.WarmedH U.vm ∧ ∀ w ∈ lw_tbl, w.before a0 s0 = true
def zP (D : va_G) (L : List zC) (ad : Nat → Nat) (cI : Nat → ClassId) (M : zM) (U : State) : Prop := zX D L ad cI M U.heap ∧ zK D cI U
theorem zK.warm {D : va_G} {cI : Nat → ClassId} {u U : State} (hW : u.WarmedH U.vm) (h : zK D cI u) : zK D cI U := by
  obtain ⟨h1, a0, s0, h2, h3⟩ := h
  exact ⟨va_K.moved hW.alike h1, a0, s0, State.WarmedH.trans h2 hW, h3⟩
theorem zK.w {D : va_G} {cI : Nat → ClassId} {U : State} (h : zK D cI U) {w : Cond} {args : Array Value} (hm : w ∈ lw_tbl) (hg : goodWord w = true) : w.before args U = true := by
  obtain ⟨-, a0, s0, h2, h3⟩ := h
  exact word_at h2 (good_of_word hg) (h3 _ hm)
theorem zK.nf {D : va_G} {cI : Nat → ClassId} {U : State} (h : zK D cI U) {a : String} {i : Nat} {b n d o : String} {args : Array Value} (hm : Cond.fieldLinkNest a i b n d o ∈ lw_tbl) : (Cond.fieldLinkNest a i b n d o).before args U = true := by
  obtain ⟨-, a0, s0, h2, h3⟩ := h
  exact va_Nw.use rfl (va_Nw.warmF h2 (va_Nw.of rfl (h3 _ hm)))
theorem zK.nm {D : va_G} {cI : Nat → ClassId} {U : State} (h : zK D cI U) {a : String} {i : Nat} {y : MethodName} {o : String} {args : Array Value} (hm : Cond.methodLinkNest a i y o ∈ lw_tbl) : (Cond.methodLinkNest a i y o).before args U = true := by
  obtain ⟨-, a0, s0, h2, h3⟩ := h
  exact va_Nw.use rfl (va_Nw.warmM h2 (va_Nw.of rfl (h3 _ hm)))
theorem zW_len (ad : Nat → Nat) (cI : Nat → ClassId) (M : zM) : ∀ (L : List zC) (k : Nat), (zW ad cI M k L).length = L.length
  | [], _ => rfl
  | d :: t, k => by simp [zW, zW_len ad cI M t (k + 1)]
theorem zX.kept {D : va_G} {L : List zC} {ad : Nat → Nat} {cI : Nat → ClassId} {M : zM} {H H1 : Heap} (h : zX D L ad cI M H) (hq : ∀ q : Nat, q < H.size → zA ad L q → H1[q]? = H[q]?) : zX D L ad cI M H1 := by
  refine ⟨fun k x hx => ?_, h.2⟩
  have h1 := h.1 k x hx
  exact h1.kept (hq x.1 h1.lt (h.2.1.2 k x hx))
theorem zX.rg {D : va_G} {L : List zC} {ad : Nat → Nat} {cI : Nat → ClassId} {M : zM} {H : Heap} (h : zX D L ad cI M H) (k : Nat) (i : Int) : -2147483648 ≤ M k i ∧ M k i ≤ 2147483647 := h.2.2 k i
theorem zU_rg {M : zM} (h : ∀ k i, -2147483648 ≤ M k i ∧ M k i ≤ 2147483647) {k : Nat} {i v : Int} (hv : -2147483648 ≤ v ∧ v ≤ 2147483647) : ∀ k' i', -2147483648 ≤ zU M k i v k' i' ∧ zU M k i v k' i' ≤ 2147483647 := by
  intro k' i'
  unfold zU
  split
  · exact hv
  · exact h k' i'
theorem zI_byte {v : Int} (h : -128 ≤ v ∧ v ≤ 127) : vp_nar .byte (zI v) = zI v := by
  rw [vp_nar_byte]
  apply Int32.toInt_inj.mp
  rw [Int8.toInt_toInt32, zI_toInt (by omega)]
  have e : (zI v).toInt8.toInt = (zI v).toInt.bmod (2 ^ 8) := Int32.toInt_toInt8 _
  rw [e, zI_toInt (by omega)]
  exact Int.bmod_eq_of_le (by omega) (by omega)
section ZROWS
variable {p : Program} {l : Launch} {e : Env} {R : Room} {s : State} {m : MethodId} {args : Array Value} {below : List Frame} {meth : Method} {c : Code} {H : Heap} {locs : List Loc} {cells slots : Nat} {Q : State → Prop}
variable {cc : ByteArray} {pc : Nat} {ls : Array Slot} {rest : List Value}
variable {D : va_G} {L : List zC} {ad : Nat → Nat} {cI : Nat → ClassId} {M : zM} {H0 : Heap}
theorem z_const (hx : p.tables.exec = Jvm.exec) (hb : c.code = cc) {n : Int} (hdg : decode cc pc = .ok (.iconst n, 1))
    (k : W p l e R s m args below meth c H locs cells slots Q (F0 m (pc + 1) ls (.int (zI n) :: rest))) : W p l e R s m args below meth c H locs cells slots Q (F0 m pc ls rest) := lv_iconst hx hb hdg rfl k
theorem z_bipush (hx : p.tables.exec = Jvm.exec) (hb : c.code = cc) {n : Int} (hdg : decode cc pc = .ok (.bipush n, 2)) (hv : (Int8.ofInt n).toInt32 = zI n)
    (k : W p l e R s m args below meth c H locs cells slots Q (F0 m (pc + 2) ls (.int (zI n) :: rest))) : W p l e R s m args below meth c H locs cells slots Q (F0 m pc ls rest) := lv_bipush hx hb hdg hv k
theorem z_sipush (hx : p.tables.exec = Jvm.exec) (hb : c.code = cc) {n : Int} (hdg : decode cc pc = .ok (.sipush n, 3)) (hv : (Int16.ofInt n).toInt32 = zI n)
    (k : W p l e R s m args below meth c H locs cells slots Q (F0 m (pc + 3) ls (.int (zI n) :: rest))) : W p l e R s m args below meth c H locs cells slots Q (F0 m pc ls rest) := lv_sipush hx hb hdg hv k
theorem z_raw {x : Int32} (k : W p l e R s m args below meth c H locs cells slots Q (F0 m pc ls (.int (zI x.toInt) :: rest))) : W p l e R s m args below meth c H locs cells slots Q (F0 m pc ls (.int x :: rest)) := by
  rw [← zI_of] at k
  exact k
theorem z_ldc (hx : p.tables.exec = Jvm.exec) (hb : c.code = cc) {own : String} {index : Nat} {n : Int} (hown : s.vm.findClass own = some m.cls) (hK : zK D cI s) (hconst : Jvm.Cond.constant own index (zI n) ∈ lw_tbl) (hdg : decode cc pc = .ok (.ldc index, 2))
    (k : W p l e R s m args below meth c H locs cells slots Q (F0 m (pc + 2) ls (.int (zI n) :: rest))) : W p l e R s m args below meth c H locs cells slots Q (F0 m pc ls rest) := lv_ldc hx hb hown (hK.w hconst rfl) hdg k
theorem z_ldc2 (hx : p.tables.exec = Jvm.exec) (hb : c.code = cc) {own : String} {index : Nat} {v : Int64} (hown : s.vm.findClass own = some m.cls) (hK : zK D cI s) (hconst : Jvm.Cond.constantLong own index v ∈ lw_tbl) (hdg : decode cc pc = .ok (.ldc2_w index, 3))
    (k : W p l e R s m args below meth c H locs cells slots Q (F0 m (pc + 3) ls (.long v :: rest))) : W p l e R s m args below meth c H locs cells slots Q (F0 m pc ls rest) := lv_ldc2 hx hb hown (hK.w hconst rfl) hdg k
theorem z_iadd (hx : p.tables.exec = Jvm.exec) (hb : c.code = cc) {a b : Int} (hdg : decode cc pc = .ok (.iadd, 1))
    (k : W p l e R s m args below meth c H locs cells slots Q (F0 m (pc + 1) ls (.int (zI (a + b)) :: rest))) : W p l e R s m args below meth c H locs cells slots Q (F0 m pc ls (.int (zI b) :: .int (zI a) :: rest)) := lv_iadd hx hb hdg (by rw [zI_add]; exact k)
theorem z_isub (hx : p.tables.exec = Jvm.exec) (hb : c.code = cc) {a b : Int} (hdg : decode cc pc = .ok (.isub, 1))
    (k : W p l e R s m args below meth c H locs cells slots Q (F0 m (pc + 1) ls (.int (zI (a - b)) :: rest))) : W p l e R s m args below meth c H locs cells slots Q (F0 m pc ls (.int (zI b) :: .int (zI a) :: rest)) := lv_isub hx hb hdg (by rw [zI_sub]; exact k)
theorem z_imul (hx : p.tables.exec = Jvm.exec) (hb : c.code = cc) {a b : Int} (hdg : decode cc pc = .ok (.imul, 1))
    (k : W p l e R s m args below meth c H locs cells slots Q (F0 m (pc + 1) ls (.int (zI (a * b)) :: rest))) : W p l e R s m args below meth c H locs cells slots Q (F0 m pc ls (.int (zI b) :: .int (zI a) :: rest)) := lv_imul hx hb hdg (by rw [zI_mul]; exact k)
theorem z_iinc (hx : p.tables.exec = Jvm.exec) (hb : c.code = cc) {i nL k : Nat} {n a : Int} {lv lv' : List (Nat × Value)} (hdg : decode cc pc = .ok (.iinc i n, 3)) (h : lv_has ls nL lv) (hk : lv[k]? = some (i, .int (zI a))) (hn : i < nL) (hl : (i, Value.int (zI (a + n))) :: lv.filter (fun q => !(q.1 == i) && !(q.1 + 1 == i && q.2.category == 2)) = lv')
    (kk : ∀ ls' : Array Slot, lv_has ls' nL lv' → W p l e R s m args below meth c H locs cells slots Q (F0 m (pc + 3) ls' rest)) : W p l e R s m args below meth c H locs cells slots Q (F0 m pc ls rest) :=
  lv_iinc (v := zI (a + n)) hx hb hdg h hk (zI_add a n) hn hl kk
theorem z_icmp_ge (hx : p.tables.exec = Jvm.exec) (hb : c.code = cc) {a b : Int} {off : Int} {tgt : Nat} (hdg : decode cc pc = .ok (.if_icmp .ge off, 3)) (ht : (pc : Int) + off = (tgt : Int)) (hr : (-2147483648 ≤ a ∧ a ≤ 2147483647) ∧ -2147483648 ≤ b ∧ b ≤ 2147483647)
    (kt : b ≤ a → W p l e R s m args below meth c H locs cells slots Q (F0 m tgt ls rest)) (kf : a < b → W p l e R s m args below meth c H locs cells slots Q (F0 m (pc + 3) ls rest)) : W p l e R s m args below meth c H locs cells slots Q (F0 m pc ls (.int (zI b) :: .int (zI a) :: rest)) :=
  lv_icmp_ge hx hb hdg ht (fun h => kt ((zI_le ⟨hr.2, hr.1⟩).mp h)) (fun h => kf (Int.not_le.mp fun q => h ((zI_le ⟨hr.2, hr.1⟩).mpr q)))
theorem z_icmp_lt (hx : p.tables.exec = Jvm.exec) (hb : c.code = cc) {a b : Int} {off : Int} {tgt : Nat} (hdg : decode cc pc = .ok (.if_icmp .lt off, 3)) (ht : (pc : Int) + off = (tgt : Int)) (hr : (-2147483648 ≤ a ∧ a ≤ 2147483647) ∧ -2147483648 ≤ b ∧ b ≤ 2147483647)
    (kt : a < b → W p l e R s m args below meth c H locs cells slots Q (F0 m tgt ls rest)) (kf : b ≤ a → W p l e R s m args below meth c H locs cells slots Q (F0 m (pc + 3) ls rest)) : W p l e R s m args below meth c H locs cells slots Q (F0 m pc ls (.int (zI b) :: .int (zI a) :: rest)) :=
  lv_icmp_lt hx hb hdg ht (fun h => kt ((zI_lt hr).mp h)) (fun h => kf (Int.not_lt.mp fun q => h ((zI_lt hr).mpr q)))
theorem z_icmp_gt (hx : p.tables.exec = Jvm.exec) (hb : c.code = cc) {a b : Int} {off : Int} {tgt : Nat} (hdg : decode cc pc = .ok (.if_icmp .gt off, 3)) (ht : (pc : Int) + off = (tgt : Int)) (hr : (-2147483648 ≤ a ∧ a ≤ 2147483647) ∧ -2147483648 ≤ b ∧ b ≤ 2147483647)
    (kt : b < a → W p l e R s m args below meth c H locs cells slots Q (F0 m tgt ls rest)) (kf : a ≤ b → W p l e R s m args below meth c H locs cells slots Q (F0 m (pc + 3) ls rest)) : W p l e R s m args below meth c H locs cells slots Q (F0 m pc ls (.int (zI b) :: .int (zI a) :: rest)) :=
  lv_icmp_gt hx hb hdg ht (fun h => kt ((zI_lt ⟨hr.2, hr.1⟩).mp h)) (fun h => kf (Int.not_lt.mp fun q => h ((zI_lt ⟨hr.2, hr.1⟩).mpr q)))
theorem z_icmp_le (hx : p.tables.exec = Jvm.exec) (hb : c.code = cc) {a b : Int} {off : Int} {tgt : Nat} (hdg : decode cc pc = .ok (.if_icmp .le off, 3)) (ht : (pc : Int) + off = (tgt : Int)) (hr : (-2147483648 ≤ a ∧ a ≤ 2147483647) ∧ -2147483648 ≤ b ∧ b ≤ 2147483647)
    (kt : a ≤ b → W p l e R s m args below meth c H locs cells slots Q (F0 m tgt ls rest)) (kf : b < a → W p l e R s m args below meth c H locs cells slots Q (F0 m (pc + 3) ls rest)) : W p l e R s m args below meth c H locs cells slots Q (F0 m pc ls (.int (zI b) :: .int (zI a) :: rest)) :=
  lv_icmp_le hx hb hdg ht (fun h => kt ((zI_le hr).mp h)) (fun h => kf (Int.not_le.mp fun q => h ((zI_le hr).mpr q)))
theorem z_icmp_eq (hx : p.tables.exec = Jvm.exec) (hb : c.code = cc) {a b : Int} {off : Int} {tgt : Nat} (hdg : decode cc pc = .ok (.if_icmp .eq off, 3)) (ht : (pc : Int) + off = (tgt : Int)) (hr : (-2147483648 ≤ a ∧ a ≤ 2147483647) ∧ -2147483648 ≤ b ∧ b ≤ 2147483647)
    (kt : a = b → W p l e R s m args below meth c H locs cells slots Q (F0 m tgt ls rest)) (kf : ¬ a = b → W p l e R s m args below meth c H locs cells slots Q (F0 m (pc + 3) ls rest)) : W p l e R s m args below meth c H locs cells slots Q (F0 m pc ls (.int (zI b) :: .int (zI a) :: rest)) :=
  lv_icmp_eq hx hb hdg ht (fun h => kt ((zI_eq hr).mp h)) (fun h => kf (fun q => h ((zI_eq hr).mpr q)))
theorem z_icmp_ne (hx : p.tables.exec = Jvm.exec) (hb : c.code = cc) {a b : Int} {off : Int} {tgt : Nat} (hdg : decode cc pc = .ok (.if_icmp .ne off, 3)) (ht : (pc : Int) + off = (tgt : Int)) (hr : (-2147483648 ≤ a ∧ a ≤ 2147483647) ∧ -2147483648 ≤ b ∧ b ≤ 2147483647)
    (kt : ¬ a = b → W p l e R s m args below meth c H locs cells slots Q (F0 m tgt ls rest)) (kf : a = b → W p l e R s m args below meth c H locs cells slots Q (F0 m (pc + 3) ls rest)) : W p l e R s m args below meth c H locs cells slots Q (F0 m pc ls (.int (zI b) :: .int (zI a) :: rest)) :=
  lv_icmp_ne hx hb hdg ht (fun h => kt (fun q => h ((zI_eq hr).mpr q))) (fun h => kf ((zI_eq hr).mp h))
theorem z_if_eq (hx : p.tables.exec = Jvm.exec) (hb : c.code = cc) {a : Int} {off : Int} {tgt : Nat} (hdg : decode cc pc = .ok (.ifCond .eq off, 3)) (ht : (pc : Int) + off = (tgt : Int)) (hr : -2147483648 ≤ a ∧ a ≤ 2147483647)
    (kt : a = 0 → W p l e R s m args below meth c H locs cells slots Q (F0 m tgt ls rest)) (kf : ¬ a = 0 → W p l e R s m args below meth c H locs cells slots Q (F0 m (pc + 3) ls rest)) : W p l e R s m args below meth c H locs cells slots Q (F0 m pc ls (.int (zI a) :: rest)) :=
  lv_if_eq hx hb hdg ht (fun h => kt ((zI_eq ⟨hr, by decide⟩).mp h)) (fun h => kf (fun q => h ((zI_eq ⟨hr, by decide⟩).mpr q)))
theorem z_if_ne (hx : p.tables.exec = Jvm.exec) (hb : c.code = cc) {a : Int} {off : Int} {tgt : Nat} (hdg : decode cc pc = .ok (.ifCond .ne off, 3)) (ht : (pc : Int) + off = (tgt : Int)) (hr : -2147483648 ≤ a ∧ a ≤ 2147483647)
    (kt : ¬ a = 0 → W p l e R s m args below meth c H locs cells slots Q (F0 m tgt ls rest)) (kf : a = 0 → W p l e R s m args below meth c H locs cells slots Q (F0 m (pc + 3) ls rest)) : W p l e R s m args below meth c H locs cells slots Q (F0 m pc ls (.int (zI a) :: rest)) :=
  lv_if_ne hx hb hdg ht (fun h => kt (fun q => h ((zI_eq (b := 0) ⟨hr, by decide⟩).mpr q))) (fun h => kf ((zI_eq (b := 0) ⟨hr, by decide⟩).mp h))
theorem z_if_le (hx : p.tables.exec = Jvm.exec) (hb : c.code = cc) {a : Int} {off : Int} {tgt : Nat} (hdg : decode cc pc = .ok (.ifCond .le off, 3)) (ht : (pc : Int) + off = (tgt : Int)) (hr : -2147483648 ≤ a ∧ a ≤ 2147483647)
    (kt : a ≤ 0 → W p l e R s m args below meth c H locs cells slots Q (F0 m tgt ls rest)) (kf : 0 < a → W p l e R s m args below meth c H locs cells slots Q (F0 m (pc + 3) ls rest)) : W p l e R s m args below meth c H locs cells slots Q (F0 m pc ls (.int (zI a) :: rest)) :=
  lv_if_le hx hb hdg ht (fun h => kt ((zI_le (b := 0) ⟨hr, by decide⟩).mp h)) (fun h => kf (Int.not_le.mp fun q => h ((zI_le (b := 0) ⟨hr, by decide⟩).mpr q)))
theorem z_if_lt (hx : p.tables.exec = Jvm.exec) (hb : c.code = cc) {a : Int} {off : Int} {tgt : Nat} (hdg : decode cc pc = .ok (.ifCond .lt off, 3)) (ht : (pc : Int) + off = (tgt : Int)) (hr : -2147483648 ≤ a ∧ a ≤ 2147483647)
    (kt : a < 0 → W p l e R s m args below meth c H locs cells slots Q (F0 m tgt ls rest)) (kf : 0 ≤ a → W p l e R s m args below meth c H locs cells slots Q (F0 m (pc + 3) ls rest)) : W p l e R s m args below meth c H locs cells slots Q (F0 m pc ls (.int (zI a) :: rest)) :=
  lv_if_lt hx hb hdg ht (fun h => kt ((zI_lt (b := 0) ⟨hr, by decide⟩).mp h)) (fun h => kf (Int.not_lt.mp fun q => h ((zI_lt (b := 0) ⟨hr, by decide⟩).mpr q)))
theorem z_if_ge (hx : p.tables.exec = Jvm.exec) (hb : c.code = cc) {a : Int} {off : Int} {tgt : Nat} (hdg : decode cc pc = .ok (.ifCond .ge off, 3)) (ht : (pc : Int) + off = (tgt : Int)) (hr : -2147483648 ≤ a ∧ a ≤ 2147483647)
    (kt : 0 ≤ a → W p l e R s m args below meth c H locs cells slots Q (F0 m tgt ls rest)) (kf : a < 0 → W p l e R s m args below meth c H locs cells slots Q (F0 m (pc + 3) ls rest)) : W p l e R s m args below meth c H locs cells slots Q (F0 m pc ls (.int (zI a) :: rest)) :=
  lv_if_ge hx hb hdg ht (fun h => kt ((zI_le (a := 0) ⟨by decide, hr⟩).mp h)) (fun h => kf (Int.not_le.mp fun q => h ((zI_le (a := 0) ⟨by decide, hr⟩).mpr q)))
theorem z_if_gt (hx : p.tables.exec = Jvm.exec) (hb : c.code = cc) {a : Int} {off : Int} {tgt : Nat} (hdg : decode cc pc = .ok (.ifCond .gt off, 3)) (ht : (pc : Int) + off = (tgt : Int)) (hr : -2147483648 ≤ a ∧ a ≤ 2147483647)
    (kt : 0 < a → W p l e R s m args below meth c H locs cells slots Q (F0 m tgt ls rest)) (kf : a ≤ 0 → W p l e R s m args below meth c H locs cells slots Q (F0 m (pc + 3) ls rest)) : W p l e R s m args below meth c H locs cells slots Q (F0 m pc ls (.int (zI a) :: rest)) :=
  lv_if_gt hx hb hdg ht (fun h => kt ((zI_lt (a := 0) ⟨by decide, hr⟩).mp h)) (fun h => kf (Int.not_lt.mp fun q => h ((zI_lt (a := 0) ⟨by decide, hr⟩).mpr q)))
theorem z_iald (hx : p.tables.exec = Jvm.exec) (hb : c.code = cc) (hK : zK D cI s) (hX : zX D L ad cI M H) (k : Nat) {n : Nat} (hk : L[k]? = some (.inr (0, n))) {i v : Int} (hi : 0 ≤ i ∧ i < n) (hn : n < 2147483648) (hv : M k i = v) (hdg : decode cc pc = .ok (.iaload, 1))
    (kk : -2147483648 ≤ v ∧ v ≤ 2147483647 → W p l e R s m args below meth c H locs cells slots Q (F0 m (pc + 1) ls (.int (zI v) :: rest))) : W p l e R s m args below meth c H locs cells slots Q (F0 m pc ls (.int (zI i) :: .ref (ad k) :: rest)) := by
  subst hv
  refine va_iald hx hb hK.1 hX.1 k 0 (zW_is hk) rfl (zI_in hi hn) hdg ?_
  rw [zI_cl hi hn, show ((i.toNat : Nat) : Int) = i from Int.toNat_of_nonneg hi.1]
  exact kk (hX.rg k i)
theorem z_bald (hx : p.tables.exec = Jvm.exec) (hb : c.code = cc) (hK : zK D cI s) (hX : zX D L ad cI M H) (k : Nat) {n : Nat} (hk : L[k]? = some (.inr (1, n))) {i v : Int} (hi : 0 ≤ i ∧ i < n) (hn : n < 2147483648) (hv : M k i = v) (hdg : decode cc pc = .ok (.baload, 1))
    (kk : -2147483648 ≤ v ∧ v ≤ 2147483647 → W p l e R s m args below meth c H locs cells slots Q (F0 m (pc + 1) ls (.int (zI v) :: rest))) : W p l e R s m args below meth c H locs cells slots Q (F0 m pc ls (.int (zI i) :: .ref (ad k) :: rest)) := by
  subst hv
  refine va_bald hx hb hK.1 hX.1 k 1 (zW_is hk) rfl (zI_in hi hn) hdg ?_
  rw [zI_cl hi hn, show ((i.toNat : Nat) : Int) = i from Int.toNat_of_nonneg hi.1]
  exact kk (hX.rg k i)
theorem z_iast (hx : p.tables.exec = Jvm.exec) (hb : c.code = cc) (hK : zK D cI s) (hX : zX D L ad cI M H) (hS : va_S (zA ad L) H0 H locs) (k : Nat) {n : Nat} (hk : L[k]? = some (.inr (0, n))) {i v : Int} (hi : 0 ≤ i ∧ i < n) (hn : n < 2147483648) (hv : -2147483648 ≤ v ∧ v ≤ 2147483647) (hdg : decode cc pc = .ok (.iastore, 1))
    (kk : ∀ (H1 : Heap) (locs1 : List Loc), zX D L ad cI (zU M k i v) H1 → va_S (zA ad L) H0 H1 locs1 → W p l e R s m args below meth c H1 locs1 cells slots Q (F0 m (pc + 1) ls rest)) : W p l e R s m args below meth c H locs cells slots Q (F0 m pc ls (.int (zI v) :: .int (zI i) :: .ref (ad k) :: rest)) := by
  refine va_iast hx hb hK.1 hX.1 hX.2.1 hS k 0 (zW_is hk) rfl (zI_in hi hn) hdg (fun H1 locs1 hP hD hS1 => ?_)
  have e : (zW ad cI M 0 L).set k (ad k, .inl (cI 0, n, .inl (upd (fun q => zI (M k (q : Int))) (zI i).toNatClampNeg (zI v)))) = zW ad cI (zU M k i v) 0 L := by
    refine zW_put hk ?_ (fun j hj => zU_k hj)
    simp only [zE]
    congr 4
    funext q
    rw [zI_cl hi hn]
    unfold upd
    by_cases hq : q = i.toNat
    · rw [if_pos hq, show (q : Int) = i by omega, zU_s]
    · rw [if_neg hq, zU_n (by omega)]
  rw [e] at hP hD
  exact kk H1 locs1 ⟨hP, hD, zU_rg hX.2.2 hv⟩ hS1
theorem z_bast (hx : p.tables.exec = Jvm.exec) (hb : c.code = cc) (hK : zK D cI s) (hX : zX D L ad cI M H) (hS : va_S (zA ad L) H0 H locs) (k : Nat) {n : Nat} (hk : L[k]? = some (.inr (1, n))) {i v : Int} (hi : 0 ≤ i ∧ i < n) (hn : n < 2147483648) (hv : -128 ≤ v ∧ v ≤ 127) (hdg : decode cc pc = .ok (.bastore, 1))
    (kk : ∀ (H1 : Heap) (locs1 : List Loc), zX D L ad cI (zU M k i v) H1 → va_S (zA ad L) H0 H1 locs1 → W p l e R s m args below meth c H1 locs1 cells slots Q (F0 m (pc + 1) ls rest)) : W p l e R s m args below meth c H locs cells slots Q (F0 m pc ls (.int (zI v) :: .int (zI i) :: .ref (ad k) :: rest)) := by
  refine va_bast hx hb hK.1 hX.1 hX.2.1 hS k 1 (zW_is hk) rfl (zI_in hi hn) hdg (fun H1 locs1 hP hD hS1 => ?_)
  rw [zI_byte hv] at hP hD
  have e : (zW ad cI M 0 L).set k (ad k, .inl (cI 1, n, .inl (upd (fun q => zI (M k (q : Int))) (zI i).toNatClampNeg (zI v)))) = zW ad cI (zU M k i v) 0 L := by
    refine zW_put hk ?_ (fun j hj => zU_k hj)
    simp only [zE]
    congr 4
    funext q
    rw [zI_cl hi hn]
    unfold upd
    by_cases hq : q = i.toNat
    · rw [if_pos hq, show (q : Int) = i by omega, zU_s]
    · rw [if_neg hq, zU_n (by omega)]
  rw [e] at hP hD
  exact kk H1 locs1 ⟨hP, hD, zU_rg hX.2.2 (by omega)⟩ hS1
theorem z_iastw (hx : p.tables.exec = Jvm.exec) (hb : c.code = cc) (hK : zK D cI s) (hX : zX D L ad cI M H) (hS : va_S (zA ad L) H0 H locs) (k : Nat) {n : Nat} (hk : L[k]? = some (.inr (0, n))) {i v : Int} (hi : 0 ≤ i ∧ i < n) (hn : n < 2147483648) (hdg : decode cc pc = .ok (.iastore, 1))
    (kk : ∀ (H1 : Heap) (locs1 : List Loc), zX D L ad cI (zU M k i (bm v)) H1 → va_S (zA ad L) H0 H1 locs1 → W p l e R s m args below meth c H1 locs1 cells slots Q (F0 m (pc + 1) ls rest)) : W p l e R s m args below meth c H locs cells slots Q (F0 m pc ls (.int (zI v) :: .int (zI i) :: .ref (ad k) :: rest)) := by
  have h := z_iast (p := p) (l := l) (e := e) (R := R) (m := m) (below := below) (meth := meth) (cells := cells) (slots := slots) (Q := Q) (ls := ls) (rest := rest) (v := bm v) hx hb hK hX hS k hk hi hn (bm_rg v) hdg kk
  rw [bm_zI] at h
  exact h
theorem z_alen (hx : p.tables.exec = Jvm.exec) (hb : c.code = cc) (hK : zK D cI s) (hX : zX D L ad cI M H) (k : Nat) {n : Nat} (hk : L[k]? = some (.inr (0, n))) (hdg : decode cc pc = .ok (.arraylength, 1))
    (kk : W p l e R s m args below meth c H locs cells slots Q (F0 m (pc + 1) ls (.int (zI (n : Int)) :: rest))) : W p l e R s m args below meth c H locs cells slots Q (F0 m pc ls (.ref (ad k) :: rest)) :=
  va_alen hx hb hK.1 hX.1 k 0 (zW_is hk) rfl (v := zI (n : Int)) (by rfl) hdg kk
/-- a field that is read: in the class itself; 'N': in another class of the nest -/
theorem z_getr (hx : p.tables.exec = Jvm.exec) (hb : c.code = cc) {own ref C : String} {T : u_T} {N ci index : Nat} (hin : ∀ w ∈ u_ws C T N, w ∈ lw_tbl ∧ goodWord w = true) (hown : s.vm.findClass own = some m.cls) (hK : zK D cI s) (hX : zX D L ad cI M H) (k : Nat) {fs : List zF} (hk : L[k]? = some (.inl (ci, fs))) (hc : zCl[ci]? = some (C, T, N)) (j : Nat) (hj : j < N) (hlink : Cond.fieldLink own index ref (T j).2.1 (T j).2.2.1 ∈ lw_tbl) (hsame : ∀ x, s.fieldFound? (T j).1 (T j).2.1 (T j).2.2.1 = some x → s.fieldFound? ref (T j).2.1 (T j).2.2.1 = some x) (q : Nat) (hf : fs[j]? = some (.inl q)) (hdg : decode cc pc = .ok (.getfield index, 3))
    (kk : W p l e R s m args below meth c H locs cells slots Q (F0 m (pc + 3) ls (.ref (ad q) :: rest))) : W p l e R s m args below meth c H locs cells slots Q (F0 m pc ls (.ref (ad k) :: rest)) :=
  va_get hx hb (fun w hw => hK.w (hin w hw).1 (hin w hw).2) (fun w hw => hw) hown hK.1 hX.1 k (zW_is hk) hc j hj (hK.w hlink rfl) hsame (v := .ref (ad q)) (by rw [zFs_at, hf]; rfl) hdg kk
theorem z_getrN (hx : p.tables.exec = Jvm.exec) (hb : c.code = cc) {own ref C host : String} {T : u_T} {N ci index : Nat} (hin : ∀ w ∈ u_ws C T N, w ∈ lw_tbl ∧ goodWord w = true) (hown : s.vm.findClass own = some m.cls) (hK : zK D cI s) (hX : zX D L ad cI M H) (k : Nat) {fs : List zF} (hk : L[k]? = some (.inl (ci, fs))) (hc : zCl[ci]? = some (C, T, N)) (j : Nat) (hj : j < N) (hlink : Cond.fieldLinkNest own index ref (T j).2.1 (T j).2.2.1 host ∈ lw_tbl) (hsame : ∀ x, s.fieldFound? (T j).1 (T j).2.1 (T j).2.2.1 = some x → s.fieldFound? ref (T j).2.1 (T j).2.2.1 = some x) (q : Nat) (hf : fs[j]? = some (.inl q)) (hdg : decode cc pc = .ok (.getfield index, 3))
    (kk : W p l e R s m args below meth c H locs cells slots Q (F0 m (pc + 3) ls (.ref (ad q) :: rest))) : W p l e R s m args below meth c H locs cells slots Q (F0 m pc ls (.ref (ad k) :: rest)) :=
  va_getN hx hb (fun w hw => hK.w (hin w hw).1 (hin w hw).2) (fun w hw => hw) hown hK.1 hX.1 k (zW_is hk) hc j hj (hK.nf hlink) hsame (v := .ref (ad q)) (by rw [zFs_at, hf]; rfl) hdg kk
theorem z_geti (hx : p.tables.exec = Jvm.exec) (hb : c.code = cc) {own ref C : String} {T : u_T} {N ci index : Nat} (hin : ∀ w ∈ u_ws C T N, w ∈ lw_tbl ∧ goodWord w = true) (hown : s.vm.findClass own = some m.cls) (hK : zK D cI s) (hX : zX D L ad cI M H) (k : Nat) {fs : List zF} (hk : L[k]? = some (.inl (ci, fs))) (hc : zCl[ci]? = some (C, T, N)) (j : Nat) (hj : j < N) (hlink : Cond.fieldLink own index ref (T j).2.1 (T j).2.2.1 ∈ lw_tbl) (hsame : ∀ x, s.fieldFound? (T j).1 (T j).2.1 (T j).2.2.1 = some x → s.fieldFound? ref (T j).2.1 (T j).2.2.1 = some x) (hf : fs[j]? = some (.inr (.inl ()))) {i v : Int} (hi : i = (j : Int)) (hv : M k i = v) (hdg : decode cc pc = .ok (.getfield index, 3))
    (kk : -2147483648 ≤ v ∧ v ≤ 2147483647 → W p l e R s m args below meth c H locs cells slots Q (F0 m (pc + 3) ls (.int (zI v) :: rest))) : W p l e R s m args below meth c H locs cells slots Q (F0 m pc ls (.ref (ad k) :: rest)) := by
  subst hi; subst hv
  exact va_get hx hb (fun w hw => hK.w (hin w hw).1 (hin w hw).2) (fun w hw => hw) hown hK.1 hX.1 k (zW_is hk) hc j hj (hK.w hlink rfl) hsame (v := .int (zI (M k j))) (by rw [zFs_at, hf]; simp [zFv]) hdg (kk (hX.rg k j))
theorem z_getiN (hx : p.tables.exec = Jvm.exec) (hb : c.code = cc) {own ref C host : String} {T : u_T} {N ci index : Nat} (hin : ∀ w ∈ u_ws C T N, w ∈ lw_tbl ∧ goodWord w = true) (hown : s.vm.findClass own = some m.cls) (hK : zK D cI s) (hX : zX D L ad cI M H) (k : Nat) {fs : List zF} (hk : L[k]? = some (.inl (ci, fs))) (hc : zCl[ci]? = some (C, T, N)) (j : Nat) (hj : j < N) (hlink : Cond.fieldLinkNest own index ref (T j).2.1 (T j).2.2.1 host ∈ lw_tbl) (hsame : ∀ x, s.fieldFound? (T j).1 (T j).2.1 (T j).2.2.1 = some x → s.fieldFound? ref (T j).2.1 (T j).2.2.1 = some x) (hf : fs[j]? = some (.inr (.inl ()))) {i v : Int} (hi : i = (j : Int)) (hv : M k i = v) (hdg : decode cc pc = .ok (.getfield index, 3))
    (kk : -2147483648 ≤ v ∧ v ≤ 2147483647 → W p l e R s m args below meth c H locs cells slots Q (F0 m (pc + 3) ls (.int (zI v) :: rest))) : W p l e R s m args below meth c H locs cells slots Q (F0 m pc ls (.ref (ad k) :: rest)) := by
  subst hi; subst hv
  exact va_getN hx hb (fun w hw => hK.w (hin w hw).1 (hin w hw).2) (fun w hw => hw) hown hK.1 hX.1 k (zW_is hk) hc j hj (hK.nf hlink) hsame (v := .int (zI (M k j))) (by rw [zFs_at, hf]; simp [zFv]) hdg (kk (hX.rg k j))
theorem z_getl (hx : p.tables.exec = Jvm.exec) (hb : c.code = cc) {own ref C : String} {T : u_T} {N ci index : Nat} (hin : ∀ w ∈ u_ws C T N, w ∈ lw_tbl ∧ goodWord w = true) (hown : s.vm.findClass own = some m.cls) (hK : zK D cI s) (hX : zX D L ad cI M H) (k : Nat) {fs : List zF} (hk : L[k]? = some (.inl (ci, fs))) (hc : zCl[ci]? = some (C, T, N)) (j : Nat) (hj : j < N) (hlink : Cond.fieldLink own index ref (T j).2.1 (T j).2.2.1 ∈ lw_tbl) (hsame : ∀ x, s.fieldFound? (T j).1 (T j).2.1 (T j).2.2.1 = some x → s.fieldFound? ref (T j).2.1 (T j).2.2.1 = some x) (q : Int64) (hf : fs[j]? = some (.inr (.inr q))) (hdg : decode cc pc = .ok (.getfield index, 3))
    (kk : W p l e R s m args below meth c H locs cells slots Q (F0 m (pc + 3) ls (.long q :: rest))) : W p l e R s m args below meth c H locs cells slots Q (F0 m pc ls (.ref (ad k) :: rest)) :=
  va_get hx hb (fun w hw => hK.w (hin w hw).1 (hin w hw).2) (fun w hw => hw) hown hK.1 hX.1 k (zW_is hk) hc j hj (hK.w hlink rfl) hsame (v := .long q) (by rw [zFs_at, hf]; rfl) hdg kk
theorem zFs_set (ad : Nat → Nat) (M : zM) (k : Nat) {fs : List zF} {j : Nat} (hf : fs[j]? = some (.inr (.inl ()))) (v : Int) : (zFs ad M k 0 fs).set j (.int (zI v)) = zFs ad (zU M k j v) k 0 fs := by
  apply List.ext_getElem?
  intro i
  rw [List.getElem?_set, zFs_at, zFs_at]
  by_cases hj : j = i
  · subst hj
    have hl : j < (zFs ad M k 0 fs).length := by rw [zFs_len]; exact (List.getElem?_eq_some_iff.mp hf).1
    rw [if_pos rfl, if_pos hl, hf]
    simp [zFv, zU]
  · rw [if_neg hj]
    congr 1
    funext f
    cases f with
    | inl c => rfl
    | inr f =>
      cases f with
      | inl u =>
        simp only [zFv, Nat.zero_add]
        rw [zU_n (by omega)]
      | inr x => rfl
theorem z_puti (hx : p.tables.exec = Jvm.exec) (hb : c.code = cc) {own ref C : String} {T : u_T} {N ci index : Nat} (hin : ∀ w ∈ u_ws C T N, w ∈ lw_tbl ∧ goodWord w = true) (ty0 : Nat → FieldType) (hty : ∀ k, k < N → parseFieldDescriptor (T k).2.2.1 = some (ty0 k)) (hnm : ∀ a, a < N → ∀ b, b < N → a ≠ b → (T a).2.1 ≠ (T b).2.1) (hown : s.vm.findClass own = some m.cls) (hK : zK D cI s) (hX : zX D L ad cI M H) (hS : va_S (zA ad L) H0 H locs) (k : Nat) {fs : List zF} (hk : L[k]? = some (.inl (ci, fs))) (hc : zCl[ci]? = some (C, T, N)) (j : Nat) (hj : j < N) (hlink : Cond.fieldLink own index ref (T j).2.1 (T j).2.2.1 ∈ lw_tbl) (hsame : ∀ x, s.fieldFound? (T j).1 (T j).2.1 (T j).2.2.1 = some x → s.fieldFound? ref (T j).2.1 (T j).2.2.1 = some x) (hfin : (T j).2.2.2 = false) (hd : parseFieldDescriptor (T j).2.2.1 = some .int) (hf : fs[j]? = some (.inr (.inl ()))) {i v : Int} (hi : i = (j : Int)) (hv : -2147483648 ≤ v ∧ v ≤ 2147483647) (hdg : decode cc pc = .ok (.putfield index, 3))
    (kk : ∀ (H1 : Heap) (locs1 : List Loc), zX D L ad cI (zU M k i v) H1 → va_S (zA ad L) H0 H1 locs1 → W p l e R s m args below meth c H1 locs1 cells slots Q (F0 m (pc + 3) ls rest)) : W p l e R s m args below meth c H locs cells slots Q (F0 m pc ls (.int (zI v) :: .ref (ad k) :: rest)) := by
  subst hi
  refine va_put hx hb (fun w hw => hK.w (hin w hw).1 (hin w hw).2) (fun w hw => hw) ty0 hty hnm hown hK.1 hX.1 hX.2.1 hS k (zW_is hk) hc j hj (hK.w hlink rfl) hsame hfin hd (v := .int (zI v)) rfl rfl (by rw [zFs_len]; exact (List.getElem?_eq_some_iff.mp hf).1) hdg (fun H1 locs1 hP hD hS1 => ?_)
  have e : (zW ad cI M 0 L).set k (ad k, .inr (ci, (zFs ad M k 0 fs).set j (.int (zI v)))) = zW ad cI (zU M k j v) 0 L := by
    refine zW_put hk ?_ (fun j hj => zU_k hj)
    simp only [zE]
    rw [zFs_set ad M k hf]
  rw [e] at hP hD
  exact kk H1 locs1 ⟨hP, hD, zU_rg hX.2.2 hv⟩ hS1
theorem z_putiN (hx : p.tables.exec = Jvm.exec) (hb : c.code = cc) {own ref C host : String} {T : u_T} {N ci index : Nat} (hin : ∀ w ∈ u_ws C T N, w ∈ lw_tbl ∧ goodWord w = true) (ty0 : Nat → FieldType) (hty : ∀ k, k < N → parseFieldDescriptor (T k).2.2.1 = some (ty0 k)) (hnm : ∀ a, a < N → ∀ b, b < N → a ≠ b → (T a).2.1 ≠ (T b).2.1) (hown : s.vm.findClass own = some m.cls) (hK : zK D cI s) (hX : zX D L ad cI M H) (hS : va_S (zA ad L) H0 H locs) (k : Nat) {fs : List zF} (hk : L[k]? = some (.inl (ci, fs))) (hc : zCl[ci]? = some (C, T, N)) (j : Nat) (hj : j < N) (hlink : Cond.fieldLinkNest own index ref (T j).2.1 (T j).2.2.1 host ∈ lw_tbl) (hsame : ∀ x, s.fieldFound? (T j).1 (T j).2.1 (T j).2.2.1 = some x → s.fieldFound? ref (T j).2.1 (T j).2.2.1 = some x) (hfin : (T j).2.2.2 = false) (hd : parseFieldDescriptor (T j).2.2.1 = some .int) (hf : fs[j]? = some (.inr (.inl ()))) {i v : Int} (hi : i = (j : Int)) (hv : -2147483648 ≤ v ∧ v ≤ 2147483647) (hdg : decode cc pc = .ok (.putfield index, 3))
    (kk : ∀ (H1 : Heap) (locs1 : List Loc), zX D L ad cI (zU M k i v) H1 → va_S (zA ad L) H0 H1 locs1 → W p l e R s m args below meth c H1 locs1 cells slots Q (F0 m (pc + 3) ls rest)) : W p l e R s m args below meth c H locs cells slots Q (F0 m pc ls (.int (zI v) :: .ref (ad k) :: rest)) := by
  subst hi
  refine va_putN hx hb (fun w hw => hK.w (hin w hw).1 (hin w hw).2) (fun w hw => hw) ty0 hty hnm hown hK.1 hX.1 hX.2.1 hS k (zW_is hk) hc j hj (hK.nf hlink) hsame hfin hd (v := .int (zI v)) rfl rfl (by rw [zFs_len]; exact (List.getElem?_eq_some_iff.mp hf).1) hdg (fun H1 locs1 hP hD hS1 => ?_)
  have e : (zW ad cI M 0 L).set k (ad k, .inr (ci, (zFs ad M k 0 fs).set j (.int (zI v)))) = zW ad cI (zU M k j v) 0 L := by
    refine zW_put hk ?_ (fun j hj => zU_k hj)
    simp only [zE]
    rw [zFs_set ad M k hf]
  rw [e] at hP hD
  exact kk H1 locs1 ⟨hP, hD, zU_rg hX.2.2 hv⟩ hS1
theorem z_putiw (hx : p.tables.exec = Jvm.exec) (hb : c.code = cc) {own ref C : String} {T : u_T} {N ci index : Nat} (hin : ∀ w ∈ u_ws C T N, w ∈ lw_tbl ∧ goodWord w = true) (ty0 : Nat → FieldType) (hty : ∀ k, k < N → parseFieldDescriptor (T k).2.2.1 = some (ty0 k)) (hnm : ∀ a, a < N → ∀ b, b < N → a ≠ b → (T a).2.1 ≠ (T b).2.1) (hown : s.vm.findClass own = some m.cls) (hK : zK D cI s) (hX : zX D L ad cI M H) (hS : va_S (zA ad L) H0 H locs) (k : Nat) {fs : List zF} (hk : L[k]? = some (.inl (ci, fs))) (hc : zCl[ci]? = some (C, T, N)) (j : Nat) (hj : j < N) (hlink : Cond.fieldLink own index ref (T j).2.1 (T j).2.2.1 ∈ lw_tbl) (hsame : ∀ x, s.fieldFound? (T j).1 (T j).2.1 (T j).2.2.1 = some x → s.fieldFound? ref (T j).2.1 (T j).2.2.1 = some x) (hfin : (T j).2.2.2 = false) (hd : parseFieldDescriptor (T j).2.2.1 = some .int) (hf : fs[j]? = some (.inr (.inl ()))) {i v : Int} (hi : i = (j : Int)) (hdg : decode cc pc = .ok (.putfield index, 3))
    (kk : ∀ (H1 : Heap) (locs1 : List Loc), zX D L ad cI (zU M k i (bm v)) H1 → va_S (zA ad L) H0 H1 locs1 → W p l e R s m args below meth c H1 locs1 cells slots Q (F0 m (pc + 3) ls rest)) : W p l e R s m args below meth c H locs cells slots Q (F0 m pc ls (.int (zI v) :: .ref (ad k) :: rest)) := by
  have h := z_puti (p := p) (l := l) (e := e) (R := R) (m := m) (below := below) (meth := meth) (cells := cells) (slots := slots) (Q := Q) (ls := ls) (rest := rest) (v := bm v) hx hb hin ty0 hty hnm hown hK hX hS k hk hc j hj hlink hsame hfin hd hf hi (bm_rg v) hdg kk
  rw [bm_zI] at h
  exact h
theorem z_putiwN (hx : p.tables.exec = Jvm.exec) (hb : c.code = cc) {own ref C host : String} {T : u_T} {N ci index : Nat} (hin : ∀ w ∈ u_ws C T N, w ∈ lw_tbl ∧ goodWord w = true) (ty0 : Nat → FieldType) (hty : ∀ k, k < N → parseFieldDescriptor (T k).2.2.1 = some (ty0 k)) (hnm : ∀ a, a < N → ∀ b, b < N → a ≠ b → (T a).2.1 ≠ (T b).2.1) (hown : s.vm.findClass own = some m.cls) (hK : zK D cI s) (hX : zX D L ad cI M H) (hS : va_S (zA ad L) H0 H locs) (k : Nat) {fs : List zF} (hk : L[k]? = some (.inl (ci, fs))) (hc : zCl[ci]? = some (C, T, N)) (j : Nat) (hj : j < N) (hlink : Cond.fieldLinkNest own index ref (T j).2.1 (T j).2.2.1 host ∈ lw_tbl) (hsame : ∀ x, s.fieldFound? (T j).1 (T j).2.1 (T j).2.2.1 = some x → s.fieldFound? ref (T j).2.1 (T j).2.2.1 = some x) (hfin : (T j).2.2.2 = false) (hd : parseFieldDescriptor (T j).2.2.1 = some .int) (hf : fs[j]? = some (.inr (.inl ()))) {i v : Int} (hi : i = (j : Int)) (hdg : decode cc pc = .ok (.putfield index, 3))
    (kk : ∀ (H1 : Heap) (locs1 : List Loc), zX D L ad cI (zU M k i (bm v)) H1 → va_S (zA ad L) H0 H1 locs1 → W p l e R s m args below meth c H1 locs1 cells slots Q (F0 m (pc + 3) ls rest)) : W p l e R s m args below meth c H locs cells slots Q (F0 m pc ls (.int (zI v) :: .ref (ad k) :: rest)) := by
  have h := z_putiN (p := p) (l := l) (e := e) (R := R) (m := m) (below := below) (meth := meth) (cells := cells) (slots := slots) (Q := Q) (ls := ls) (rest := rest) (v := bm v) hx hb hin ty0 hty hnm hown hK hX hS k hk hc j hj hlink hsame hfin hd hf hi (bm_rg v) hdg kk
  rw [bm_zI] at h
  exact h
theorem z_mmax (hx : p.tables.exec = Jvm.exec) (hb : c.code = cc) (hml : c.maxLocals = ls.size) {own : String} {index : Nat} (hown : s.vm.findClass own = some m.cls) (hK : zK D cI s) (hlink : Cond.methodLink own index Lib.Math.max.name ∈ lw_tbl) (hstat : Cond.static Lib.Math.max.name ∈ lw_tbl) (hini : Cond.initialized "java/lang/Math" ∈ lw_tbl) (hcode : Cond.code Lib.Math.max.name Lib.Math.max.code 2 (some .int) ∈ lw_tbl)
    (hframes : 1 ≤ R.frames) (hlocals : (rest.map fun v => v.category).sum + 13 ≤ R.locals) (hc : cells ≤ R.cells) (hs : slots ≤ R.slots) {a b : Int} (hr : (-2147483648 ≤ a ∧ a ≤ 2147483647) ∧ -2147483648 ≤ b ∧ b ≤ 2147483647) (hdg : decode cc pc = .ok (.invokestatic index, 3))
    (kk : W p l e R s m args below meth c H locs cells slots Q (F0 m (pc + 3) ls (.int (zI (max a b)) :: rest))) : W p l e R s m args below meth c H locs cells slots Q (F0 m pc ls (.int (zI b) :: .int (zI a) :: rest)) := by
  refine va_mmax hx hb hml hown (hK.w hlink rfl) (hK.w hstat rfl) (hK.w hini rfl) (hK.w hcode rfl) hframes hlocals hc hs hdg ?_
  have e : (if zI a < zI b then zI b else zI a) = zI (max a b) := by
    by_cases h : a < b
    · rw [if_pos ((zI_lt hr).mpr h), show max a b = b by omega]
    · rw [if_neg (fun q => h ((zI_lt hr).mp q)), show max a b = a by omega]
  rw [e]; exact kk
theorem z_mmin (hx : p.tables.exec = Jvm.exec) (hb : c.code = cc) (hml : c.maxLocals = ls.size) {own : String} {index : Nat} (hown : s.vm.findClass own = some m.cls) (hK : zK D cI s) (hlink : Cond.methodLink own index Lib.Math.min.name ∈ lw_tbl) (hstat : Cond.static Lib.Math.min.name ∈ lw_tbl) (hini : Cond.initialized "java/lang/Math" ∈ lw_tbl) (hcode : Cond.code Lib.Math.min.name Lib.Math.min.code 2 (some .int) ∈ lw_tbl)
    (hframes : 1 ≤ R.frames) (hlocals : (rest.map fun v => v.category).sum + 13 ≤ R.locals) (hc : cells ≤ R.cells) (hs : slots ≤ R.slots) {a b : Int} (hr : (-2147483648 ≤ a ∧ a ≤ 2147483647) ∧ -2147483648 ≤ b ∧ b ≤ 2147483647) (hdg : decode cc pc = .ok (.invokestatic index, 3))
    (kk : W p l e R s m args below meth c H locs cells slots Q (F0 m (pc + 3) ls (.int (zI (min a b)) :: rest))) : W p l e R s m args below meth c H locs cells slots Q (F0 m pc ls (.int (zI b) :: .int (zI a) :: rest)) := by
  refine va_mmin hx hb hml hown (hK.w hlink rfl) (hK.w hstat rfl) (hK.w hini rfl) (hK.w hcode rfl) hframes hlocals hc hs hdg ?_
  have e : (if zI b < zI a then zI b else zI a) = zI (min a b) := by
    by_cases h : b < a
    · rw [if_pos ((zI_lt ⟨hr.2, hr.1⟩).mpr h), show min a b = b by omega]
    · rw [if_neg (fun q => h ((zI_lt ⟨hr.2, hr.1⟩).mp q)), show min a b = a by omega]
  rw [e]; exact kk
end ZROWS
