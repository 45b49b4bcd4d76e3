section
-- ===== PART A: goes FIRST, ahead of the names: the tables' words, and 'selects' of the private methods out of them =====
/-- a private method of a class that the tables say can be made, by its rows of tables_1 -/
def lw_okq (q : MethodName × Nat) : Prop := (q.1.cls ≠ "java/lang/invoke/MethodHandle" ∧ q.1.cls ≠ "java/lang/invoke/VarHandle") ∧ Cond.instantiable q.1.cls q.2 ∈ tables_1 ∧ Cond.privateMethod q.1 ∈ tables_1 ∧ Cond.instanceMethod q.1 ∈ tables_1
theorem lw_p0 : lw_okq (⟨"java/lang/Throwable", "fillInStackTrace", "(I)Ljava/lang/Throwable;"⟩, 6) := ⟨⟨by decide +kernel, by decide +kernel⟩, List.mem_of_getElem? (i := 223) (by decide +kernel), List.mem_of_getElem? (i := 221) (by decide +kernel), List.mem_of_getElem? (i := 222) (by decide +kernel)⟩
theorem lw_p1 : lw_okq (⟨"PersonSeeds$Rooms", "add", "(I)I"⟩, 5) := ⟨⟨by decide +kernel, by decide +kernel⟩, List.mem_of_getElem? (i := 23) (by decide +kernel), List.mem_of_getElem? (i := 272) (by decide +kernel), List.mem_of_getElem? (i := 273) (by decide +kernel)⟩
theorem lw_p2 : lw_okq (⟨"PersonSeeds$Persons", "plan", "(I)V"⟩, 9) := ⟨⟨by decide +kernel, by decide +kernel⟩, List.mem_of_getElem? (i := 103) (by decide +kernel), List.mem_of_getElem? (i := 276) (by decide +kernel), List.mem_of_getElem? (i := 277) (by decide +kernel)⟩
theorem lw_p3 : lw_okq (⟨"PersonSeeds$Persons", "drawn", "(III)I"⟩, 9) := ⟨⟨by decide +kernel, by decide +kernel⟩, List.mem_of_getElem? (i := 103) (by decide +kernel), List.mem_of_getElem? (i := 280) (by decide +kernel), List.mem_of_getElem? (i := 281) (by decide +kernel)⟩
theorem lw_p4 : lw_okq (⟨"PersonSeeds", "checkRoom", "(I)V"⟩, 7) := ⟨⟨by decide +kernel, by decide +kernel⟩, List.mem_of_getElem? (i := 15) (by decide +kernel), List.mem_of_getElem? (i := 294) (by decide +kernel), List.mem_of_getElem? (i := 295) (by decide +kernel)⟩
theorem lw_p5 : lw_okq (⟨"PersonSeeds$Doors", "add", "(III)I"⟩, 8) := ⟨⟨by decide +kernel, by decide +kernel⟩, List.mem_of_getElem? (i := 50) (by decide +kernel), List.mem_of_getElem? (i := 302) (by decide +kernel), List.mem_of_getElem? (i := 303) (by decide +kernel)⟩
theorem lw_p6 : lw_okq (⟨"PersonSeeds$Doors", "shortenWays", "(II)V"⟩, 8) := ⟨⟨by decide +kernel, by decide +kernel⟩, List.mem_of_getElem? (i := 50) (by decide +kernel), List.mem_of_getElem? (i := 306) (by decide +kernel), List.mem_of_getElem? (i := 307) (by decide +kernel)⟩
theorem lw_p7 : lw_okq (⟨"PersonSeeds$Doors", "stepsBetween", "(II)I"⟩, 8) := ⟨⟨by decide +kernel, by decide +kernel⟩, List.mem_of_getElem? (i := 50) (by decide +kernel), List.mem_of_getElem? (i := 310) (by decide +kernel), List.mem_of_getElem? (i := 311) (by decide +kernel)⟩
theorem lw_p8 : lw_okq (⟨"PersonSeeds$Persons", "add", "(II)V"⟩, 9) := ⟨⟨by decide +kernel, by decide +kernel⟩, List.mem_of_getElem? (i := 103) (by decide +kernel), List.mem_of_getElem? (i := 324) (by decide +kernel), List.mem_of_getElem? (i := 325) (by decide +kernel)⟩
theorem lw_p9 : lw_okq (⟨"PersonSeeds", "passMinute", "()V"⟩, 7) := ⟨⟨by decide +kernel, by decide +kernel⟩, List.mem_of_getElem? (i := 15) (by decide +kernel), List.mem_of_getElem? (i := 344) (by decide +kernel), List.mem_of_getElem? (i := 345) (by decide +kernel)⟩
theorem lw_p10 : lw_okq (⟨"PersonSeeds$Doors", "beginMinute", "()V"⟩, 8) := ⟨⟨by decide +kernel, by decide +kernel⟩, List.mem_of_getElem? (i := 50) (by decide +kernel), List.mem_of_getElem? (i := 348) (by decide +kernel), List.mem_of_getElem? (i := 349) (by decide +kernel)⟩
theorem lw_p11 : lw_okq (⟨"PersonSeeds", "tryStep", "(I)V"⟩, 7) := ⟨⟨by decide +kernel, by decide +kernel⟩, List.mem_of_getElem? (i := 15) (by decide +kernel), List.mem_of_getElem? (i := 352) (by decide +kernel), List.mem_of_getElem? (i := 353) (by decide +kernel)⟩
theorem lw_p12 : lw_okq (⟨"PersonSeeds$Trails", "placeNow", "(I)I"⟩, 3) := ⟨⟨by decide +kernel, by decide +kernel⟩, List.mem_of_getElem? (i := 87) (by decide +kernel), List.mem_of_getElem? (i := 356) (by decide +kernel), List.mem_of_getElem? (i := 357) (by decide +kernel)⟩
theorem lw_p13 : lw_okq (⟨"PersonSeeds$Persons", "wants", "(II)I"⟩, 9) := ⟨⟨by decide +kernel, by decide +kernel⟩, List.mem_of_getElem? (i := 103) (by decide +kernel), List.mem_of_getElem? (i := 360) (by decide +kernel), List.mem_of_getElem? (i := 361) (by decide +kernel)⟩
theorem lw_p14 : lw_okq (⟨"PersonSeeds", "tryEntrance", "(I)V"⟩, 7) := ⟨⟨by decide +kernel, by decide +kernel⟩, List.mem_of_getElem? (i := 15) (by decide +kernel), List.mem_of_getElem? (i := 364) (by decide +kernel), List.mem_of_getElem? (i := 365) (by decide +kernel)⟩
theorem lw_p15 : lw_okq (⟨"PersonSeeds$Rooms", "hasSpace", "(I)Z"⟩, 5) := ⟨⟨by decide +kernel, by decide +kernel⟩, List.mem_of_getElem? (i := 23) (by decide +kernel), List.mem_of_getElem? (i := 368) (by decide +kernel), List.mem_of_getElem? (i := 369) (by decide +kernel)⟩
def lw_privs_1 : List (MethodName × Nat) := [(⟨"java/lang/Throwable", "fillInStackTrace", "(I)Ljava/lang/Throwable;"⟩, 6), (⟨"PersonSeeds$Rooms", "add", "(I)I"⟩, 5), (⟨"PersonSeeds$Persons", "plan", "(I)V"⟩, 9), (⟨"PersonSeeds$Persons", "drawn", "(III)I"⟩, 9), (⟨"PersonSeeds", "checkRoom", "(I)V"⟩, 7), (⟨"PersonSeeds$Doors", "add", "(III)I"⟩, 8), (⟨"PersonSeeds$Doors", "shortenWays", "(II)V"⟩, 8), (⟨"PersonSeeds$Doors", "stepsBetween", "(II)I"⟩, 8), (⟨"PersonSeeds$Persons", "add", "(II)V"⟩, 9), (⟨"PersonSeeds", "passMinute", "()V"⟩, 7), (⟨"PersonSeeds$Doors", "beginMinute", "()V"⟩, 8), (⟨"PersonSeeds", "tryStep", "(I)V"⟩, 7), (⟨"PersonSeeds$Trails", "placeNow", "(I)I"⟩, 3), (⟨"PersonSeeds$Persons", "wants", "(II)I"⟩, 9), (⟨"PersonSeeds", "tryEntrance", "(I)V"⟩, 7), (⟨"PersonSeeds$Rooms", "hasSpace", "(I)Z"⟩, 5)]
theorem lw_r1 : ∀ q ∈ lw_privs_1, lw_okq q := List.forall_mem_cons.mpr ⟨lw_p0, List.forall_mem_cons.mpr ⟨lw_p1, List.forall_mem_cons.mpr ⟨lw_p2, List.forall_mem_cons.mpr ⟨lw_p3, List.forall_mem_cons.mpr ⟨lw_p4, List.forall_mem_cons.mpr ⟨lw_p5, List.forall_mem_cons.mpr ⟨lw_p6, List.forall_mem_cons.mpr ⟨lw_p7, List.forall_mem_cons.mpr ⟨lw_p8, List.forall_mem_cons.mpr ⟨lw_p9, List.forall_mem_cons.mpr ⟨lw_p10, List.forall_mem_cons.mpr ⟨lw_p11, List.forall_mem_cons.mpr ⟨lw_p12, List.forall_mem_cons.mpr ⟨lw_p13, List.forall_mem_cons.mpr ⟨lw_p14, List.forall_mem_cons.mpr ⟨lw_p15, fun _ h => absurd h List.not_mem_nil⟩⟩⟩⟩⟩⟩⟩⟩⟩⟩⟩⟩⟩⟩⟩⟩
theorem lw_p16 : lw_okq (⟨"PersonSeeds$Trails", "add", "(III)V"⟩, 3) := ⟨⟨by decide +kernel, by decide +kernel⟩, List.mem_of_getElem? (i := 87) (by decide +kernel), List.mem_of_getElem? (i := 372) (by decide +kernel), List.mem_of_getElem? (i := 373) (by decide +kernel)⟩
theorem lw_p17 : lw_okq (⟨"PersonSeeds", "tryDoor", "(III)V"⟩, 7) := ⟨⟨by decide +kernel, by decide +kernel⟩, List.mem_of_getElem? (i := 15) (by decide +kernel), List.mem_of_getElem? (i := 376) (by decide +kernel), List.mem_of_getElem? (i := 377) (by decide +kernel)⟩
theorem lw_p18 : lw_okq (⟨"PersonSeeds$Doors", "towards", "(II)I"⟩, 8) := ⟨⟨by decide +kernel, by decide +kernel⟩, List.mem_of_getElem? (i := 50) (by decide +kernel), List.mem_of_getElem? (i := 380) (by decide +kernel), List.mem_of_getElem? (i := 381) (by decide +kernel)⟩
theorem lw_p19 : lw_okq (⟨"PersonSeeds$Doors", "behind", "(II)I"⟩, 8) := ⟨⟨by decide +kernel, by decide +kernel⟩, List.mem_of_getElem? (i := 50) (by decide +kernel), List.mem_of_getElem? (i := 384) (by decide +kernel), List.mem_of_getElem? (i := 385) (by decide +kernel)⟩
theorem lw_p20 : lw_okq (⟨"PersonSeeds$Doors", "isFree", "(I)Z"⟩, 8) := ⟨⟨by decide +kernel, by decide +kernel⟩, List.mem_of_getElem? (i := 50) (by decide +kernel), List.mem_of_getElem? (i := 389) (by decide +kernel), List.mem_of_getElem? (i := 390) (by decide +kernel)⟩
theorem lw_p21 : lw_okq (⟨"PersonSeeds$Doors", "pass", "(II)V"⟩, 8) := ⟨⟨by decide +kernel, by decide +kernel⟩, List.mem_of_getElem? (i := 50) (by decide +kernel), List.mem_of_getElem? (i := 393) (by decide +kernel), List.mem_of_getElem? (i := 394) (by decide +kernel)⟩
theorem lw_p22 : lw_okq (⟨"PersonSeeds", "goOut", "(I)V"⟩, 7) := ⟨⟨by decide +kernel, by decide +kernel⟩, List.mem_of_getElem? (i := 15) (by decide +kernel), List.mem_of_getElem? (i := 397) (by decide +kernel), List.mem_of_getElem? (i := 398) (by decide +kernel)⟩
theorem lw_p23 : lw_okq (⟨"PersonSeeds$Rooms", "endMinute", "()V"⟩, 5) := ⟨⟨by decide +kernel, by decide +kernel⟩, List.mem_of_getElem? (i := 23) (by decide +kernel), List.mem_of_getElem? (i := 401) (by decide +kernel), List.mem_of_getElem? (i := 402) (by decide +kernel)⟩
theorem lw_p24 : lw_okq (⟨"PersonSeeds", "checkPerson", "(I)V"⟩, 7) := ⟨⟨by decide +kernel, by decide +kernel⟩, List.mem_of_getElem? (i := 15) (by decide +kernel), List.mem_of_getElem? (i := 416) (by decide +kernel), List.mem_of_getElem? (i := 417) (by decide +kernel)⟩
theorem lw_p25 : lw_okq (⟨"PersonSeeds", "checkOver", "(I)V"⟩, 7) := ⟨⟨by decide +kernel, by decide +kernel⟩, List.mem_of_getElem? (i := 15) (by decide +kernel), List.mem_of_getElem? (i := 434) (by decide +kernel), List.mem_of_getElem? (i := 435) (by decide +kernel)⟩
theorem lw_p26 : lw_okq (⟨"PersonSeeds$Trails", "placeBehind", "(II)I"⟩, 3) := ⟨⟨by decide +kernel, by decide +kernel⟩, List.mem_of_getElem? (i := 87) (by decide +kernel), List.mem_of_getElem? (i := 438) (by decide +kernel), List.mem_of_getElem? (i := 439) (by decide +kernel)⟩
theorem lw_p27 : lw_okq (⟨"PersonSeeds$Trails", "firstJoining", "(II)I"⟩, 3) := ⟨⟨by decide +kernel, by decide +kernel⟩, List.mem_of_getElem? (i := 87) (by decide +kernel), List.mem_of_getElem? (i := 485) (by decide +kernel), List.mem_of_getElem? (i := 486) (by decide +kernel)⟩
theorem lw_p28 : lw_okq (⟨"PersonSeedsModel", "may", "(ZZ)Z"⟩, 23) := ⟨⟨by decide +kernel, by decide +kernel⟩, List.mem_of_getElem? (i := 492) (by decide +kernel), List.mem_of_getElem? (i := 581) (by decide +kernel), List.mem_of_getElem? (i := 582) (by decide +kernel)⟩
theorem lw_p29 : lw_okq (⟨"PersonSeedsModel", "isRoom", "(I)Z"⟩, 23) := ⟨⟨by decide +kernel, by decide +kernel⟩, List.mem_of_getElem? (i := 492) (by decide +kernel), List.mem_of_getElem? (i := 589) (by decide +kernel), List.mem_of_getElem? (i := 590) (by decide +kernel)⟩
theorem lw_p30 : lw_okq (⟨"PersonSeedsModel", "shorten", "(II)V"⟩, 23) := ⟨⟨by decide +kernel, by decide +kernel⟩, List.mem_of_getElem? (i := 492) (by decide +kernel), List.mem_of_getElem? (i := 594) (by decide +kernel), List.mem_of_getElem? (i := 595) (by decide +kernel)⟩
theorem lw_p31 : lw_okq (⟨"PersonSeedsModel", "drawn", "(III)I"⟩, 23) := ⟨⟨by decide +kernel, by decide +kernel⟩, List.mem_of_getElem? (i := 492) (by decide +kernel), List.mem_of_getElem? (i := 610) (by decide +kernel), List.mem_of_getElem? (i := 611) (by decide +kernel)⟩
def lw_privs_2 : List (MethodName × Nat) := [(⟨"PersonSeeds$Trails", "add", "(III)V"⟩, 3), (⟨"PersonSeeds", "tryDoor", "(III)V"⟩, 7), (⟨"PersonSeeds$Doors", "towards", "(II)I"⟩, 8), (⟨"PersonSeeds$Doors", "behind", "(II)I"⟩, 8), (⟨"PersonSeeds$Doors", "isFree", "(I)Z"⟩, 8), (⟨"PersonSeeds$Doors", "pass", "(II)V"⟩, 8), (⟨"PersonSeeds", "goOut", "(I)V"⟩, 7), (⟨"PersonSeeds$Rooms", "endMinute", "()V"⟩, 5), (⟨"PersonSeeds", "checkPerson", "(I)V"⟩, 7), (⟨"PersonSeeds", "checkOver", "(I)V"⟩, 7), (⟨"PersonSeeds$Trails", "placeBehind", "(II)I"⟩, 3), (⟨"PersonSeeds$Trails", "firstJoining", "(II)I"⟩, 3), (⟨"PersonSeedsModel", "may", "(ZZ)Z"⟩, 23), (⟨"PersonSeedsModel", "isRoom", "(I)Z"⟩, 23), (⟨"PersonSeedsModel", "shorten", "(II)V"⟩, 23), (⟨"PersonSeedsModel", "drawn", "(III)I"⟩, 23)]
theorem lw_r2 : ∀ q ∈ lw_privs_2, lw_okq q := List.forall_mem_cons.mpr ⟨lw_p16, List.forall_mem_cons.mpr ⟨lw_p17, List.forall_mem_cons.mpr ⟨lw_p18, List.forall_mem_cons.mpr ⟨lw_p19, List.forall_mem_cons.mpr ⟨lw_p20, List.forall_mem_cons.mpr ⟨lw_p21, List.forall_mem_cons.mpr ⟨lw_p22, List.forall_mem_cons.mpr ⟨lw_p23, List.forall_mem_cons.mpr ⟨lw_p24, List.forall_mem_cons.mpr ⟨lw_p25, List.forall_mem_cons.mpr ⟨lw_p26, List.forall_mem_cons.mpr ⟨lw_p27, List.forall_mem_cons.mpr ⟨lw_p28, List.forall_mem_cons.mpr ⟨lw_p29, List.forall_mem_cons.mpr ⟨lw_p30, List.forall_mem_cons.mpr ⟨lw_p31, fun _ h => absurd h List.not_mem_nil⟩⟩⟩⟩⟩⟩⟩⟩⟩⟩⟩⟩⟩⟩⟩⟩
theorem lw_p32 : lw_okq (⟨"PersonSeedsModel", "oneMinute", "()V"⟩, 23) := ⟨⟨by decide +kernel, by decide +kernel⟩, List.mem_of_getElem? (i := 492) (by decide +kernel), List.mem_of_getElem? (i := 623) (by decide +kernel), List.mem_of_getElem? (i := 624) (by decide +kernel)⟩
theorem lw_p33 : lw_okq (⟨"PersonSeedsModel", "step", "(I)V"⟩, 23) := ⟨⟨by decide +kernel, by decide +kernel⟩, List.mem_of_getElem? (i := 492) (by decide +kernel), List.mem_of_getElem? (i := 627) (by decide +kernel), List.mem_of_getElem? (i := 628) (by decide +kernel)⟩
theorem lw_p34 : lw_okq (⟨"PersonSeedsModel", "wants", "(I)I"⟩, 23) := ⟨⟨by decide +kernel, by decide +kernel⟩, List.mem_of_getElem? (i := 492) (by decide +kernel), List.mem_of_getElem? (i := 631) (by decide +kernel), List.mem_of_getElem? (i := 632) (by decide +kernel)⟩
theorem lw_p35 : lw_okq (⟨"PersonSeedsModel", "tell", "(II)I"⟩, 23) := ⟨⟨by decide +kernel, by decide +kernel⟩, List.mem_of_getElem? (i := 492) (by decide +kernel), List.mem_of_getElem? (i := 635) (by decide +kernel), List.mem_of_getElem? (i := 636) (by decide +kernel)⟩
theorem lw_p36 : lw_okq (⟨"PersonSeedsModel", "goes", "(II)Z"⟩, 23) := ⟨⟨by decide +kernel, by decide +kernel⟩, List.mem_of_getElem? (i := 492) (by decide +kernel), List.mem_of_getElem? (i := 639) (by decide +kernel), List.mem_of_getElem? (i := 640) (by decide +kernel)⟩
theorem lw_p37 : lw_okq (⟨"PersonSeedsModel", "throughDoor", "(II)V"⟩, 23) := ⟨⟨by decide +kernel, by decide +kernel⟩, List.mem_of_getElem? (i := 492) (by decide +kernel), List.mem_of_getElem? (i := 643) (by decide +kernel), List.mem_of_getElem? (i := 644) (by decide +kernel)⟩
theorem lw_p38 : lw_okq (⟨"PersonSeedsModel", "doorOf", "(II)I"⟩, 23) := ⟨⟨by decide +kernel, by decide +kernel⟩, List.mem_of_getElem? (i := 492) (by decide +kernel), List.mem_of_getElem? (i := 647) (by decide +kernel), List.mem_of_getElem? (i := 648) (by decide +kernel)⟩
theorem lw_p39 : lw_okq (⟨"PersonSeedsModel", "isPerson", "(I)Z"⟩, 23) := ⟨⟨by decide +kernel, by decide +kernel⟩, List.mem_of_getElem? (i := 492) (by decide +kernel), List.mem_of_getElem? (i := 655) (by decide +kernel), List.mem_of_getElem? (i := 656) (by decide +kernel)⟩
theorem lw_p40 : lw_okq (⟨"PersonSeedsModel", "isOver", "(I)Z"⟩, 23) := ⟨⟨by decide +kernel, by decide +kernel⟩, List.mem_of_getElem? (i := 492) (by decide +kernel), List.mem_of_getElem? (i := 668) (by decide +kernel), List.mem_of_getElem? (i := 669) (by decide +kernel)⟩
def lw_privs_3 : List (MethodName × Nat) := [(⟨"PersonSeedsModel", "oneMinute", "()V"⟩, 23), (⟨"PersonSeedsModel", "step", "(I)V"⟩, 23), (⟨"PersonSeedsModel", "wants", "(I)I"⟩, 23), (⟨"PersonSeedsModel", "tell", "(II)I"⟩, 23), (⟨"PersonSeedsModel", "goes", "(II)Z"⟩, 23), (⟨"PersonSeedsModel", "throughDoor", "(II)V"⟩, 23), (⟨"PersonSeedsModel", "doorOf", "(II)I"⟩, 23), (⟨"PersonSeedsModel", "isPerson", "(I)Z"⟩, 23), (⟨"PersonSeedsModel", "isOver", "(I)Z"⟩, 23)]
theorem lw_r3 : ∀ q ∈ lw_privs_3, lw_okq q := List.forall_mem_cons.mpr ⟨lw_p32, List.forall_mem_cons.mpr ⟨lw_p33, List.forall_mem_cons.mpr ⟨lw_p34, List.forall_mem_cons.mpr ⟨lw_p35, List.forall_mem_cons.mpr ⟨lw_p36, List.forall_mem_cons.mpr ⟨lw_p37, List.forall_mem_cons.mpr ⟨lw_p38, List.forall_mem_cons.mpr ⟨lw_p39, List.forall_mem_cons.mpr ⟨lw_p40, fun _ h => absurd h List.not_mem_nil⟩⟩⟩⟩⟩⟩⟩⟩⟩
def lw_privs : List (MethodName × Nat) := lw_privs_1 ++ (lw_privs_2 ++ (lw_privs_3))
def lw_tbl : List Cond := k2_sels lw_privs ++ tables_1
theorem lw_privs_ok : ∀ q ∈ lw_privs, lw_okq q := by
  show ∀ q ∈ lw_privs_1 ++ (lw_privs_2 ++ (lw_privs_3)), lw_okq q
  exact List.forall_mem_append.mpr ⟨lw_r1, List.forall_mem_append.mpr ⟨lw_r2, lw_r3⟩⟩
-- ===== end of PART A; then your names; then what follows =====
end
section
/-! ===== BEGIN words of one list among another's, by their places ===== -/
theorem goodIn_r {big : List Cond} (ws : List Cond) (ps : List Nat) (hp : ws = ps.filterMap (fun i => big[i]?)) (h : ws.all goodWord = true) : GoodIn big ws := by
  intro w hw
  have h1 := List.all_eq_true.mp h w hw
  rw [hp] at hw
  obtain ⟨i, -, hi⟩ := List.mem_filterMap.mp hw
  have hm : w ∈ big := by first | exact List.mem_of_getElem? hi | exact List.getElem?_mem hi
  exact ⟨hm, good_of_word h1⟩
theorem goodIn_app {big a b : List Cond} (ha : GoodIn big a) (hb : GoodIn big b) : GoodIn big (a ++ b) := fun w h => (List.mem_append.mp h).elim (ha w) (hb w)
theorem goodIn_ca {big a b : List Cond} {c : Cond} (ha : GoodIn big (c :: a)) (hb : GoodIn big b) : GoodIn big (c :: (a ++ b)) := fun w h => (List.mem_cons.mp h).elim (fun e => ha w (List.mem_cons.mpr (Or.inl e))) (fun h => (List.mem_append.mp h).elim (fun h => ha w (List.mem_cons.mpr (Or.inr h))) (hb w))
theorem goodIn_sub {big ws : List Cond} (hm : ∀ w ∈ ws, w ∈ big) (h : ws.all goodWord = true) : GoodIn big ws := fun w hw => ⟨hm w hw, good_of_word (List.all_eq_true.mp h w hw)⟩
/-! ===== END ===== -/

/-! ===== BEGIN exceptions that leave a method, and their catching by the caller (launches without stack traces) ===== -/
section VXA
/-! The laws vx_back, vx_callV, vx_callS, vx_callSW, vx_throw0, vx_throwS follow proofs of the library, with one case more: JvmDerived/Free/Laws.lean (Back.of_free), Shelf42/LK1.lean (callV, callS), Shelf/KitTraced.lean (throwNew0V, throwNewS). -/
/-- where a method has thrown q: the class by its name, the cell, what was written, the world -/
def vx_T (XC : String → State → State → Prop) (st : State) (q : Addr) (t : State) (mc ms : Nat) (free : Addr → Prop) : Prop :=
  ∃ (E : String) (ce : Cell) (L : List Loc), XC E st t ∧ t.heap[q]? = some ce ∧ ce.vm = .none ∧ st.vm.findClass E = some ce.cls ∧ st.WarmedH t.vm ∧ st.sameButNew ({ t with vm := st.vm } : State) L mc ms ∧ ∀ z ∈ L, free z.base
def vx_Q (Qc : Array Value → State → Outcome → State → Prop) (XC : String → State → State → Prop) (mc ms : Nat) (free : Addr → Prop) : Array Value → State → Outcome → State → Prop := fun a st o t =>
  (Qc a st o t ∧ ∃ L, FrameEnd st o t L mc ms ∧ ∀ q ∈ L, free q.base) ∨ ∃ q, o = .threw q ∧ vx_T XC st q t mc ms free
/-- a callee that returns or throws -/
def vx_Met (l : Launch) (y : MethodName) (ws : List Cond) (rm : Room) (Pc : Array Value → State → Prop) (Qc : Array Value → State → Outcome → State → Prop) (XC : String → State → State → Prop) (mc ms : Nat) (free : Addr → Prop) : Prop :=
  MetFree l y (headSpec ws rm) Pc (fun _ _ _ _ _ => True) (vx_Q Qc XC mc ms free)
def vx_Post (XC : String → State → State → Prop) (mc ms : Nat) (free : Addr → Prop) : Pt → Array Value → Addr → Pt → Prop := fun A a q B =>
  ∃ (g : JFrame) (mk : MethodId) (t : State) (L : List Loc) (E : String) (ce : Cell), B.U.heap = t.heap ∧ B.U.vm = t.vm ∧ XC E (A.U.calling g mk a) t ∧ t.heap[q]? = some ce ∧ ce.vm = .none ∧ A.U.vm.findClass E = some ce.cls ∧ B.locs = A.locs ++ L ∧ (∀ z ∈ L, free z.base) ∧ B.cells = A.cells + mc ∧ B.slots = A.slots + ms
def vx_Back (l : Launch) (R : Room) (p : Program) (e : Env) (below : List Frame) (s : State) (sargs : Array Value) (y : MethodName) (len W9 : Nat)
    (Pre : Pt → Array Value → Prop) (Post : Pt → Array Value → Option Value → Pt → Prop) (PostX : Pt → Array Value → Addr → Pt → Prop) : Prop :=
  ∀ (m : MethodId) (meth : Method) (c : Code) (A : Pt) (g : JFrame) (ig : Instr) (mk : MethodId) (a : Array Value),
    Stand p l e R s m sargs below meth c A.U A.locs A.cells A.slots → g.method = m → g.locals.size = c.maxLocals → decode c.code g.pc = .ok (ig, len) →
    2 * g.monitorRoom + (g.stack.map fun v => v.category).sum ≤ W9 → A.U.methodNamed? y = some mk → Pre A a →
    (∃ (v : Option Value) (B : Pt), Stand p l e R s m sargs below meth c B.U B.locs B.cells B.slots ∧ Post A a v B ∧
      Steps p.tables e below (doInvoke e (A.U.setTop g) [] mk a).1 (B.U.setTop { g with pc := g.pc + len, stack := v.toList ++ g.stack })) ∨
    (∃ (q : Addr) (B : Pt), Stand p l e R s m sargs below meth c B.U B.locs B.cells B.slots ∧ PostX A a q B ∧
      Steps p.tables e below (doInvoke e (A.U.setTop g) [] mk a).1 ((B.U.setTop g).pushFrame (.throwing q)))
section Payer
variable {l : Launch} {R : Room} {p : Program} {e : Env} {below : List Frame} {s : State} {sargs : Array Value} {y : MethodName} {len W9 : Nat}
theorem vx_back {ws : List Cond} {rm : Room} {Pc : Array Value → State → Prop} {Qc : Array Value → State → Outcome → State → Prop} {XC : String → State → State → Prop} {mc ms : Nat} {free : Addr → Prop} {bytes : ByteArray} {maxL : Nat} {ret : Option FieldType}
    (hM : vx_Met l y ws rm Pc Qc XC mc ms free) (hblind : FrameBlind Pc) (hrc : rm.cells = mc) (hrs : rm.slots = ms)
    (hframes : rm.frames + 1 ≤ R.frames) (hlocals : W9 + (maxL + 11) + rm.locals ≤ R.locals)
    (hws : ∀ w ∈ ws, ∀ a' U, s.WarmedH U.vm → w.before a' U = true) (hcode : Cond.code y bytes maxL ret ∈ ws) (hinit : ∀ a' U, s.WarmedH U.vm → (Cond.initialized y.cls).before a' U = true) :
    vx_Back l R p e below s sargs y len W9 (PreOf R mc ms Pc) (PostOf Qc mc ms free) (vx_Post XC mc ms free) := by
  intro m meth c A g ig mk a X hg hsize hdg hW hn hp
  have h1 : (headSpec ws rm).pre.before a A.U = true := atoms_intro fun w hw => hws w hw _ _ X.warmed
  have h2 : (Cond.code y bytes maxL ret).before a A.U = true := hws _ hcode _ _ X.warmed
  have h3 : (Cond.initialized y.cls).before a A.U = true := hinit _ _ X.warmed
  have h4 : A.cells + (headSpec ws rm).room.cells ≤ R.cells := by rw [show (headSpec ws rm).room.cells = mc from hrc]; exact hp.1
  have h5 : A.slots + (headSpec ws rm).room.slots ≤ R.slots := by rw [show (headSpec ws rm).room.slots = ms from hrs]; exact hp.2.1
  have hPc : Pc a (A.U.calling g mk a) := hblind _ _ _ _ hp.2.2
  obtain ⟨U, Ls, c0, s0⟩ := A
  dsimp only [Pt.U, Pt.locs, Pt.cells, Pt.slots] at h1 h2 h3 h4 h5 X hn hPc ⊢
  obtain ⟨methY, cY, hmY, hcY, -, hlY, -, -, -, -⟩ := Cond.code_spec hn h2
  obtain ⟨kY, hkY, -⟩ := className_of_methodNamed hn
  have hinitY : kY.init = .initialized := Cond.initialized_spec (findClass_of_methodNamed hn) hkY h3
  have h : At U g.method c below := by rw [hg]; exact X.here
  have hlocals9 : W9 + (maxL + 11) + (headSpec ws rm).room.locals ≤ R.locals := hlocals
  have happ : (headSpec ws rm).appliesLoose y e.platform (U.calling g mk a) = true :=
    Spec.appliesLoose_calling (g := g) h hdg hn hkY hinitY
      (X.room_calling (g := g) (R' := (headSpec ws rm).room) hsize hmY hcY hframes (by rw [hlY]; omega) h4 h5) h1
  obtain ⟨mid, hmid⟩ := h.above
  have hfr : (U.setTop g).frames = (.java g :: mid) ++ below := by rw [State.frames_setTop' g h.top, hmid]; rfl
  obtain ⟨o, s₂, hsteps, -, hend, hq⟩ := Steps.callFree hM p X.admits X.cas X.clock (acts := []) hfr happ hPc trivial
  have hq' : vx_Q Qc XC mc ms free a (U.calling g mk a) o s₂ := hq
  rw [State.frames_setTop' g h.top] at hend
  obtain ⟨g₀, hg0⟩ := Option.isSome_iff_exists.mp h.top
  obtain ⟨r, hr⟩ := State.topJava?_eq_some.mp hg0
  have hr' : (({ U with heap := s₂.heap, slotsUsed := s₂.slotsUsed } : State).setVm s₂.vm).frames = .java g₀ :: r := hr
  rcases hq' with ⟨hqc, L, hfe, hL⟩ | ⟨q, rfl, E, ce, L, hx, hce, hcv, hcl, hW₂, hsm, hL⟩
  · obtain ⟨⟨v, rfl⟩, hW₂, e2, q2, q3, q4, q5, q6⟩ := id hfe
    have e3 : s₂ = ({ (U.calling g mk a).setFrames s₂.frames with heap := s₂.heap, slotsUsed := s₂.slotsUsed } : State).setVm s₂.vm := by
      have : s₂ = ({ s₂ with vm := (U.calling g mk a).vm } : State).setVm s₂.vm := rfl
      rw [e2] at this
      exact this
    obtain ⟨c₂, i₂, len₂, hc₂, hd₂, hf₂⟩ := hend
    have hW' : U.WarmedH s₂.vm := hW₂
    have hcc : c₂ = c := by
      have h1 : s₂.code? g.method = U.code? g.method := by
        rw [State.code?_eq, State.code?_eq, hW'.alike.method?]
      exact Option.some.inj (hc₂.symm.trans (h1.trans h.code))
    subst hcc
    have hlen : len₂ = len := by rw [hdg] at hd₂; cases hd₂; rfl
    subst hlen
    have hs₂ : s₂ = (({ U with heap := s₂.heap, slotsUsed := s₂.slotsUsed } : State).setVm s₂.vm).setTop { g with pc := g.pc + len₂, stack := v.toList ++ g.stack } := by
      refine e3.trans ?_
      rw [hf₂, State.calling_eq h.top, State.setFrames_setFrames, State.setTop_of_frames _ hr', hr]
      rfl
    have hsame : U.sameButNew ({ U with heap := s₂.heap, slotsUsed := s₂.slotsUsed } : State) L mc ms := by
      refine ⟨?_, q2, q3, q4, q5, q6⟩
      obtain ⟨t, ht, -⟩ := State.frames_cons hr
      show ({ U with heap := s₂.heap, slotsUsed := s₂.slotsUsed } : State) = { U.setFrames U.frames with heap := s₂.heap, slotsUsed := s₂.slotsUsed }
      rw [State.setFrames_self ht]
    subst hg
    refine Or.inl ⟨v, ⟨(({ U with heap := s₂.heap, slotsUsed := s₂.slotsUsed } : State).setVm s₂.vm), Ls ++ L, c0 + mc, s0 + ms⟩,
      ⟨X.admits, X.cas, X.clock, X.frames, X.room, X.hears, X.method, X.code, (X.here.setHeapUsed s₂.heap s₂.slotsUsed).setVm hW'.alike, X.tail, State.WarmedH.trans X.warmed hW', X.limits, X.bytes, X.same.trans (hsame.setVm s.vm)⟩,
      ⟨g, mk, s₂, L, rfl, rfl, hqc, rfl, hL, rfl, rfl⟩, ?_⟩
    show Steps p.tables e below _ ((({ U with heap := s₂.heap, slotsUsed := s₂.slotsUsed } : State).setVm s₂.vm).setTop { g with pc := g.pc + len₂, stack := v.toList ++ g.stack })
    rw [← hs₂]
    exact hsteps
  · obtain ⟨e2, q2, q3, q4, q5, q6⟩ := id hsm
    have e3 : s₂ = ({ (U.calling g mk a).setFrames s₂.frames with heap := s₂.heap, slotsUsed := s₂.slotsUsed } : State).setVm s₂.vm := by
      have : s₂ = ({ s₂ with vm := (U.calling g mk a).vm } : State).setVm s₂.vm := rfl
      rw [e2] at this
      exact this
    have hf₂ : s₂.frames = .throwing q :: .java g :: U.frames.tail := hend
    have hW' : U.WarmedH s₂.vm := hW₂
    have hs₂ : s₂ = ((({ U with heap := s₂.heap, slotsUsed := s₂.slotsUsed } : State).setVm s₂.vm).setTop g).pushFrame (.throwing q) := by
      refine e3.trans ?_
      rw [hf₂, State.calling_eq h.top, State.setFrames_setFrames, State.pushFrame, State.frames_setTop _ hr', State.setTop_of_frames _ hr', State.setFrames_setFrames, hr]
      rfl
    have hsame : U.sameButNew ({ U with heap := s₂.heap, slotsUsed := s₂.slotsUsed } : State) L mc ms := by
      refine ⟨?_, q2, q3, q4, q5, q6⟩
      obtain ⟨t, ht, -⟩ := State.frames_cons hr
      show ({ U with heap := s₂.heap, slotsUsed := s₂.slotsUsed } : State) = { U.setFrames U.frames with heap := s₂.heap, slotsUsed := s₂.slotsUsed }
      rw [State.setFrames_self ht]
    subst hg
    refine Or.inr ⟨q, ⟨(({ U with heap := s₂.heap, slotsUsed := s₂.slotsUsed } : State).setVm s₂.vm), Ls ++ L, c0 + mc, s0 + ms⟩,
      ⟨X.admits, X.cas, X.clock, X.frames, X.room, X.hears, X.method, X.code, (X.here.setHeapUsed s₂.heap s₂.slotsUsed).setVm hW'.alike, X.tail, State.WarmedH.trans X.warmed hW', X.limits, X.bytes, X.same.trans (hsame.setVm s.vm)⟩,
      ⟨g, mk, s₂, L, E, ce, rfl, rfl, hx, hce, hcv, hcl, rfl, hL, rfl, rfl⟩, ?_⟩
    show Steps p.tables e below _ (((({ U with heap := s₂.heap, slotsUsed := s₂.slotsUsed } : State).setVm s₂.vm).setTop g).pushFrame (.throwing q))
    rw [← hs₂]
    exact hsteps
end Payer
section Calls
variable {p : Program} {l : Launch} {e : Env} {R : Room} {s : State} {m : MethodId} {args : Array Value} {below : List Frame} {meth : Method} {c : Code} {T : State} {locs : List Loc} {cells slots : Nat}
theorem vx_callV (X : Stand p l e R s m args below meth c T locs cells slots) (hexec : p.tables.exec = Jvm.exec) {own C : String} {index : Nat} {y : MethodName} {bytes : ByteArray} {maxL : Nat} {ret : Option FieldType}
    (hown : s.vm.findClass own = some m.cls) (hlink : (Cond.methodLink own index y).before args s = true) (hinst : (Cond.instanceMethod y).before args s = true) (hsel : (Cond.selects C y y).before args s = true)
    (hcode : (Cond.code y bytes maxL ret).before args s = true) (hy : y.cls ≠ "java/lang/invoke/MethodHandle" ∧ y.cls ≠ "java/lang/invoke/VarHandle")
    {W9 : Nat} {Pre : Pt → Array Value → Prop} {Post : Pt → Array Value → Option Value → Pt → Prop} {PostX : Pt → Array Value → Addr → Pt → Prop} (hK : vx_Back l R p e below s args y 3 W9 Pre Post PostX)
    {b : Addr} {cellB : Cell} (hcell : T.heap[b]? = some cellB) (hobj : cellB.vm.isStatics = false) (hcls : s.vm.findClass C = some cellB.cls)
    {g : JFrame} (hg : g.method = m) (hsize : g.locals.size = c.maxLocals) {argsL rest : List Value} (hlen : ∀ sig, parseMethodDescriptor y.desc = some sig → argsL.length = sig.parameters.length)
    (hstack : g.stack = argsL.reverse ++ .ref b :: rest) (hW : 2 * g.monitorRoom + (rest.map fun v => v.category).sum ≤ W9) (hdg : decode c.code g.pc = .ok (.invokevirtual index, 3))
    (hpre : ∀ vm₁, s.WarmedH vm₁ → Pre ⟨T.setVm vm₁, locs, cells, slots⟩ (Value.ref b :: argsL).toArray) :
    (∃ (v : Option Value) (vm₁ : Vm) (B : Pt), s.WarmedH vm₁ ∧ Stand p l e R s m args below meth c B.U B.locs B.cells B.slots ∧ Post ⟨T.setVm vm₁, locs, cells, slots⟩ (Value.ref b :: argsL).toArray v B ∧
      ∀ target, Steps p.tables e below (B.U.setTop { g with pc := g.pc + 3, stack := v.toList ++ rest }) target → Steps p.tables e below (T.setTop g) target) ∨
    (∃ (q : Addr) (vm₁ : Vm) (B : Pt), s.WarmedH vm₁ ∧ Stand p l e R s m args below meth c B.U B.locs B.cells B.slots ∧ PostX ⟨T.setVm vm₁, locs, cells, slots⟩ (Value.ref b :: argsL).toArray q B ∧
      Steps p.tables e below (T.setTop g) ((B.U.setTop { g with stack := rest }).pushFrame (.throwing q))) := by
  obtain ⟨mk, methM, hnamed, hmethM, hstM, habM⟩ := Cond.instanceMethod_spec hinst
  obtain ⟨methM', cM, hmethM', -, -, -, -, -, -, hsigM⟩ := Cond.code_spec hnamed hcode
  cases hmethM.symm.trans hmethM'
  obtain ⟨c2, r2, m2, q1, q2, q3, q4, kP, hkP, hkPi⟩ := Cond.selects_spec hsel
  cases hcls.symm.trans q1
  cases (State.methodFound?_of_named hnamed hy).symm.trans q2
  cases hnamed.symm.trans q3
  have hselP : selectMethod e.platform s.vm cellB.cls mk = .method mk := by rw [Launch.admits_selectMethod X.admits]; exact q4
  obtain ⟨vm₁, X₁, hstep₁⟩ := X.invokevirtual hexec hown hlink hnamed hmethM hstM hkP hkPi hy (a := b) (cell := cellB) hcell
    (fun z h => by rw [h] at hobj; cases hobj) hselP hmethM habM hkP hkPi (g := g) hg (argsL := argsL) (rest := rest) (hlen _ hsigM) hstack hdg
  rcases hK m meth c ⟨T.setVm vm₁, locs, cells, slots⟩ { g with stack := rest } (.invokevirtual index) mk (Value.ref b :: argsL).toArray X₁ hg hsize hdg hW (X₁.named hnamed) (hpre vm₁ X₁.warmed) with ⟨v, B, X', hpost, hsteps⟩ | ⟨q, B, X', hpost, hsteps⟩
  · exact Or.inl ⟨v, vm₁, B, X₁.warmed, X', hpost, fun target h => hstep₁ _ fun acts => by rw [doInvoke_state]; exact hsteps.trans h⟩
  · exact Or.inr ⟨q, vm₁, B, X₁.warmed, X', hpost, hstep₁ _ fun acts => by rw [doInvoke_state]; exact hsteps⟩
theorem vx_callS (X : Stand p l e R s m args below meth c T locs cells slots) (hexec : p.tables.exec = Jvm.exec) {own : String} {index : Nat} {y : MethodName} {bytes : ByteArray} {maxL : Nat} {ret : Option FieldType}
    (hown : s.vm.findClass own = some m.cls) (hlink : (Cond.methodLink own index y).before args s = true) (hstat : (Cond.static y).before args s = true) (hinit : (Cond.initialized y.cls).before args s = true)
    (hcode : (Cond.code y bytes maxL ret).before args s = true) (hy : y.cls ≠ "java/lang/invoke/MethodHandle" ∧ y.cls ≠ "java/lang/invoke/VarHandle")
    {W9 : Nat} {Pre : Pt → Array Value → Prop} {Post : Pt → Array Value → Option Value → Pt → Prop} {PostX : Pt → Array Value → Addr → Pt → Prop} (hK : vx_Back l R p e below s args y 3 W9 Pre Post PostX)
    {g : JFrame} (hg : g.method = m) (hsize : g.locals.size = c.maxLocals) {argsL rest : List Value} (hlen : ∀ sig, parseMethodDescriptor y.desc = some sig → argsL.length = sig.parameters.length)
    (hstack : g.stack = argsL.reverse ++ rest) (hW : 2 * g.monitorRoom + (rest.map fun v => v.category).sum ≤ W9) (hdg : decode c.code g.pc = .ok (.invokestatic index, 3))
    (hpre : ∀ vm₁, s.WarmedH vm₁ → Pre ⟨T.setVm vm₁, locs, cells, slots⟩ argsL.toArray) :
    (∃ (v : Option Value) (vm₁ : Vm) (B : Pt), s.WarmedH vm₁ ∧ Stand p l e R s m args below meth c B.U B.locs B.cells B.slots ∧ Post ⟨T.setVm vm₁, locs, cells, slots⟩ argsL.toArray v B ∧
      ∀ target, Steps p.tables e below (B.U.setTop { g with pc := g.pc + 3, stack := v.toList ++ rest }) target → Steps p.tables e below (T.setTop g) target) ∨
    (∃ (q : Addr) (vm₁ : Vm) (B : Pt), s.WarmedH vm₁ ∧ Stand p l e R s m args below meth c B.U B.locs B.cells B.slots ∧ PostX ⟨T.setVm vm₁, locs, cells, slots⟩ argsL.toArray q B ∧
      Steps p.tables e below (T.setTop g) ((B.U.setTop { g with stack := rest }).pushFrame (.throwing q))) := by
  obtain ⟨mk, hnamed⟩ := Cond.code_named hcode
  obtain ⟨methM, cM, hmethM, -, -, -, -, -, -, hsigM⟩ := Cond.code_spec hnamed hcode
  have hstatic : methM.isStatic = true := Cond.static_spec hnamed hmethM hstat
  obtain ⟨kP, hkP, -⟩ := className_of_methodNamed hnamed
  have hinitP : kP.init = .initialized := Cond.initialized_spec (findClass_of_methodNamed hnamed) hkP hinit
  obtain ⟨vm₁, X₁, hstep₁⟩ := X.invokestatic hexec hown hlink hnamed hmethM hstatic hkP hinitP hy (g := g) hg (argsL := argsL) (rest := rest) (hlen _ hsigM) hstack hdg
  rcases hK m meth c ⟨T.setVm vm₁, locs, cells, slots⟩ { g with stack := rest } (.invokestatic index) mk argsL.toArray X₁ hg hsize hdg hW (X₁.named hnamed) (hpre vm₁ X₁.warmed) with ⟨v, B, X', hpost, hsteps⟩ | ⟨q, B, X', hpost, hsteps⟩
  · exact Or.inl ⟨v, vm₁, B, X₁.warmed, X', hpost, fun target h => hstep₁ _ fun acts => by rw [doInvoke_state]; exact hsteps.trans h⟩
  · exact Or.inr ⟨q, vm₁, B, X₁.warmed, X', hpost, hstep₁ _ fun acts => by rw [doInvoke_state]; exact hsteps⟩
end Calls
theorem vx_cls {s : State} {T : State} {vm₁ : Vm} {E : String} {k : ClassId} (hW : s.WarmedH vm₁) (h : (T.setVm vm₁).vm.findClass E = some k) : s.vm.findClass E = some k := by
  have h1 : vm₁.findClass E = some k := h
  rw [hW.alike.findClass] at h1
  exact h1
/-- the method's frame g, with q thrown over it -/
def vx_W (p : Program) (l : Launch) (e : Env) (R : Room) (s : State) (m : MethodId) (args : Array Value) (below : List Frame) (meth : Method) (c : Code) (H : Heap) (locs : List Loc) (cells slots : Nat) (Q : State → Prop) (g : JFrame) (q : Addr) : Prop :=
  ∀ T : State, T.heap = H → Stand p l e R s m args below meth c T locs cells slots → ∃ t, Steps p.tables e below ((T.setTop g).pushFrame (.throwing q)) t ∧ Q t
def vx_Run (p : Program) (l : Launch) (e : Env) (R : Room) (s : State) (m : MethodId) (args : Array Value) (below : List Frame) (meth : Method) (c : Code) (H : Heap) (locs : List Loc) (cells slots mc ms : Nat) (g : JFrame) (rest : List Value) (Qa : State → Outcome → State → Prop) (XC : String → State → State → Prop) (free : Addr → Prop) : Prop :=
  ∀ T : State, T.heap = H → Stand p l e R s m args below meth c T locs cells slots →
    (∃ (v : Option Value) (st₀ t T' : State) (L : List Loc), st₀.heap = H ∧ Stand p l e R s m args below meth c T' (locs ++ L) (cells + mc) (slots + ms) ∧ (∀ q ∈ L, free q.base) ∧ T'.heap = t.heap ∧ T'.vm = t.vm ∧ Qa st₀ (.returned v) t ∧
      Goes p e below T g T' { g with pc := g.pc + 3, stack := v.toList ++ rest }) ∨
    (∃ (q : Addr) (st₀ t T' : State) (L : List Loc) (E : String) (ce : Cell), st₀.heap = H ∧ Stand p l e R s m args below meth c T' (locs ++ L) (cells + mc) (slots + ms) ∧ (∀ z ∈ L, free z.base) ∧ T'.heap = t.heap ∧ T'.vm = t.vm ∧ XC E st₀ t ∧ t.heap[q]? = some ce ∧ ce.vm = .none ∧ s.vm.findClass E = some ce.cls ∧
      Steps p.tables e below (T.setTop g) ((T'.setTop { g with stack := rest }).pushFrame (.throwing q)))
def vx_X {S : Type} (px : S → Prop) (B : String → S → State → Prop) (A : Nat → Prop) : String → State → State → Prop := fun E st t => ∃ u : S, px u ∧ B E u t ∧ va_F A st t
section Runs
variable {p : Program} {l : Launch} {e : Env} {R : Room} {s : State} {m : MethodId} {args : Array Value} {below : List Frame} {meth : Method} {c : Code} {H : Heap} {locs : List Loc} {cells slots : Nat}
variable {y : MethodName} {bytes cc : ByteArray} {maxL nL mc ms n index : Nat} {ret : Option FieldType} {ws : List Cond} {rm : Room} {Pc : Array Value → State → Prop} {Qc : Array Value → State → Outcome → State → Prop} {XC : String → State → State → Prop} {free : Addr → Prop} {Ts : List Cond} {own C : String} {b : Addr} {As rest : List Value} {g : JFrame}
theorem vx_callBack (cb : CallB R s args own index y bytes maxL ret ws rm mc ms n) (hM : vx_Met l y ws rm Pc Qc XC mc ms free) (hbl : FrameBlind Pc) : vx_Back l R p e below s args y 3 8 (PreOf R mc ms Pc) (PostOf Qc mc ms free) (vx_Post XC mc ms free) := by
  obtain ⟨hrc, hrs, hfr, hlo, hws, hcw, -, hini, -⟩ := cb
  exact vx_back (bytes := bytes) (maxL := maxL) (ret := ret) hM hbl hrc hrs hfr hlo hws hcw (fun a' U hW => word_at hW (Or.inl (by first | rfl | simp [Cond.onTables, Cond.keeps, Cond.steady])) hini)
theorem vx_runV (S : CallFix p m c cc nL s args Ts own) (hM : vx_Met l y ws rm Pc Qc XC mc ms free) (cw : CallW R s args own C index y bytes maxL ret ws rm mc ms n) (hp : PreV s H C b Pc As)
    (hg : g.method = m) (hn : As.length = n) (hsize : g.locals.size = nL) (hstack : g.stack = As.reverse ++ .ref b :: rest) (hW : 2 * g.monitorRoom + (rest.map fun v => v.category).sum ≤ 8) (hdg : decode cc g.pc = .ok (.invokevirtual index, 3)) (hf : cells + mc ≤ R.cells ∧ slots + ms ≤ R.slots) :
    vx_Run p l e R s m args below meth c H locs cells slots mc ms g rest (Qc (Value.ref b :: As).toArray) XC free := by
  have hK : vx_Back l R p e below s args y 3 8 (PreOf R mc ms Pc) (PostOf Qc mc ms free) (vx_Post XC mc ms free) := vx_callBack cw.1 hM hp.1
  obtain ⟨⟨-, -, -, -, -, -, hcode, -, hy, hlen, hl⟩, hin, hse⟩ := cw
  obtain ⟨hx, hb, hml, ho, -⟩ := S
  obtain ⟨-, ⟨cellB, hcB, hoB, hclB⟩, hPc⟩ := hp
  intro T hT X
  rcases vx_callV X hx (C := C) (bytes := bytes) (maxL := maxL) (ret := ret) ho hl hin hse hcode hy hK (by rw [hT]; exact hcB) hoB hclB hg (hsize.trans hml.symm) (argsL := As) (rest := rest) (fun sig h => hn.trans (hlen sig h)) hstack hW (by rw [hb]; exact hdg)
    (fun vm₁ hW₁ => ⟨hf.1, hf.2, hPc (T.setVm vm₁) hT hW₁⟩) with ⟨v, vm₁, ⟨U', l2, c2, s2⟩, hW₁, X', ⟨g', mk, t, L, e1, e2, hq, h1, hL, h2, h3⟩, st⟩ | ⟨q, vm₁, ⟨U', l2, c2, s2⟩, hW₁, X', ⟨g', mk, t, L, E, ce, e1, e2, hq, hce, hcv, hcl, h1, hL, h2, h3⟩, st⟩
  · dsimp only [Pt.U, Pt.locs, Pt.cells, Pt.slots] at X' e1 e2 h1 h2 h3 st
    subst h1; subst h2; subst h3
    exact Or.inl ⟨v, (T.setVm vm₁).calling g' mk (Value.ref b :: As).toArray, t, U', L, hT, X', hL, e1, e2, hq, st⟩
  · dsimp only [Pt.U, Pt.locs, Pt.cells, Pt.slots] at X' e1 e2 h1 h2 h3 st hcl
    subst h1; subst h2; subst h3
    exact Or.inr ⟨q, (T.setVm vm₁).calling g' mk (Value.ref b :: As).toArray, t, U', L, E, ce, hT, X', hL, e1, e2, hq, hce, hcv, vx_cls hW₁ hcl, st⟩
theorem vx_runS (S : CallFix p m c cc nL s args Ts own) (hM : vx_Met l y ws rm Pc Qc XC mc ms free) (cw : CallB R s args own index y bytes maxL ret ws rm mc ms n ∧ (Cond.static y).before args s = true) (hp : PreS s H Pc As)
    (hg : g.method = m) (hn : As.length = n) (hsize : g.locals.size = nL) (hstack : g.stack = As.reverse ++ rest) (hW : 2 * g.monitorRoom + (rest.map fun v => v.category).sum ≤ 8) (hdg : decode cc g.pc = .ok (.invokestatic index, 3)) (hf : cells + mc ≤ R.cells ∧ slots + ms ≤ R.slots) :
    vx_Run p l e R s m args below meth c H locs cells slots mc ms g rest (Qc As.toArray) XC free := by
  have hK : vx_Back l R p e below s args y 3 8 (PreOf R mc ms Pc) (PostOf Qc mc ms free) (vx_Post XC mc ms free) := vx_callBack cw.1 hM hp.1
  obtain ⟨⟨-, -, -, -, -, -, hcode, hini, hy, hlen, hl⟩, hstt⟩ := cw
  obtain ⟨hx, hb, hml, ho, -⟩ := S
  intro T hT X
  rcases vx_callS X hx (bytes := bytes) (maxL := maxL) (ret := ret) ho hl hstt hini hcode hy hK hg (hsize.trans hml.symm) (argsL := As) (rest := rest) (fun sig h => hn.trans (hlen sig h)) hstack hW (by rw [hb]; exact hdg)
    (fun vm₁ hW₁ => ⟨hf.1, hf.2, hp.2 (T.setVm vm₁) hT hW₁⟩) with ⟨v, vm₁, ⟨U', l2, c2, s2⟩, hW₁, X', ⟨g', mk, t, L, e1, e2, hq, h1, hL, h2, h3⟩, st⟩ | ⟨q, vm₁, ⟨U', l2, c2, s2⟩, hW₁, X', ⟨g', mk, t, L, E, ce, e1, e2, hq, hce, hcv, hcl, h1, hL, h2, h3⟩, st⟩
  · dsimp only [Pt.U, Pt.locs, Pt.cells, Pt.slots] at X' e1 e2 h1 h2 h3 st
    subst h1; subst h2; subst h3
    exact Or.inl ⟨v, (T.setVm vm₁).calling g' mk As.toArray, t, U', L, hT, X', hL, e1, e2, hq, st⟩
  · dsimp only [Pt.U, Pt.locs, Pt.cells, Pt.slots] at X' e1 e2 h1 h2 h3 st hcl
    subst h1; subst h2; subst h3
    exact Or.inr ⟨q, (T.setVm vm₁).calling g' mk As.toArray, t, U', L, E, ce, hT, X', hL, e1, e2, hq, hce, hcv, vx_cls hW₁ hcl, st⟩
end Runs
section Rows
variable {p : Program} {l : Launch} {e : Env} {R : Room} {s : State} {m : MethodId} {args : Array Value} {below : List Frame} {meth : Method} {c : Code} {H : Heap} {locs : List Loc} {cells slots : Nat} {Q : State → Prop}
variable {mc ms : Nat} {free : Addr → Prop} {A0 A1 : Nat → Prop} {H0 : Heap} {a : Array Value} {pc : Nat} {ls : Array Slot} {st0 rest : List Value}
theorem vx_keep {st₀ t T' : State} {L : List Loc} (h0 : st₀.heap = H) (e1 : T'.heap = t.heap) (hS : va_S A0 H0 H locs) (hA : ∀ q, q < H.size → A1 q → A0 q) (hf : ∀ q, free q → A0 q) (hL : ∀ q ∈ L, free q.base) (hF : va_F A1 st₀ t) :
    H.size ≤ T'.heap.size ∧ (∀ q : Nat, q < H.size → ¬ A1 q → T'.heap[q]? = H[q]?) ∧ va_S A0 H0 T'.heap (locs ++ L) := by
  obtain ⟨hz, hk⟩ := hF
  rw [h0] at hz hk
  exact ⟨by rw [e1]; exact hz, fun q h1 h2 => by rw [e1]; exact hk q h1 h2,
    ⟨Nat.le_trans hS.1 (by rw [e1]; exact hz), fun q h1 h2 => by rw [e1, hk q (Nat.lt_of_lt_of_le h1 hS.1) (fun z => h2 (hA q (Nat.lt_of_lt_of_le h1 hS.1) z))]; exact hS.2.1 q h1 h2, fun q hq => by
      rcases List.mem_append.mp hq with h | h
      · exact hS.2.2 q h
      · exact hf _ (hL q h)⟩⟩
theorem vx_calli {S SX : Type} {post : Int32 → S → Prop} {px : SX → Prop} {B : S → State → Prop} {BX : String → SX → State → Prop} {AX : Nat → Prop} (hr : vx_Run p l e R s m args below meth c H locs cells slots mc ms (F0 m pc ls st0) rest (va_Qi post B A1 a) (vx_X px BX AX) free) (hS : va_S A0 H0 H locs) (hA : ∀ q, q < H.size → A1 q → A0 q) (hf : ∀ q, free q → A0 q) (hAX : ∀ q, q < H.size → AX q → A0 q)
    (kx : ∀ (E : String) (ce : Cell) (q9 : Addr) (u : SX) (t : State) (H1 : Heap) (locs1 : List Loc), t.heap = H1 → s.vm.Alike t.vm → px u → BX E u t → H.size ≤ H1.size → (∀ q : Nat, q < H.size → ¬ AX q → H1[q]? = H[q]?) → va_S A0 H0 H1 locs1 → H1[q9]? = some ce → ce.vm = .none → s.vm.findClass E = some ce.cls → vx_W p l e R s m args below meth c H1 locs1 (cells + mc) (slots + ms) Q (F0 m pc ls rest) q9)
    (kk : ∀ (r : Int32) (u : S) (t : State) (H1 : Heap) (locs1 : List Loc), t.heap = H1 → s.vm.Alike t.vm → post r u → B u t → H.size ≤ H1.size → (∀ q : Nat, q < H.size → ¬ A1 q → H1[q]? = H[q]?) → va_S A0 H0 H1 locs1 → W p l e R s m args below meth c H1 locs1 (cells + mc) (slots + ms) Q (F0 m (pc + 3) ls (.int r :: rest))) : W p l e R s m args below meth c H locs cells slots Q (F0 m pc ls st0) := by
  intro T hT X
  rcases hr T hT X with ⟨v, st₀, t, T', L, h0, X', hL, e1, e2, ⟨⟨r, u, hv, hp, hb⟩, hF⟩, st⟩ | ⟨q, st₀, t, T', L, E, ce, h0, X', hL, e1, e2, ⟨u, hp, hb, hF⟩, hce, hcv, hcl, st⟩
  · cases hv
    obtain ⟨k1, k2, k3⟩ := vx_keep h0 e1 hS hA hf hL hF
    obtain ⟨t2, a1, b1⟩ := kk r u t T'.heap (locs ++ L) e1.symm (by rw [← e2]; exact X'.warmed.alike) hp hb k1 k2 k3 T' rfl X'
    exact ⟨t2, st t2 a1, b1⟩
  · obtain ⟨k1, k2, k3⟩ := vx_keep h0 e1 hS hAX hf hL hF
    obtain ⟨t2, a1, b1⟩ := kx E ce q u t T'.heap (locs ++ L) e1.symm (by rw [← e2]; exact X'.warmed.alike) hp hb k1 k2 k3 (by rw [e1]; exact hce) hcv hcl T' rfl X'
    exact ⟨t2, st.trans a1, b1⟩
theorem vx_calll {S SX : Type} {post : Int64 → S → Prop} {px : SX → Prop} {B : S → State → Prop} {BX : String → SX → State → Prop} {AX : Nat → Prop} (hr : vx_Run p l e R s m args below meth c H locs cells slots mc ms (F0 m pc ls st0) rest (va_Ql post B A1 a) (vx_X px BX AX) free) (hS : va_S A0 H0 H locs) (hA : ∀ q, q < H.size → A1 q → A0 q) (hf : ∀ q, free q → A0 q) (hAX : ∀ q, q < H.size → AX q → A0 q)
    (kx : ∀ (E : String) (ce : Cell) (q9 : Addr) (u : SX) (t : State) (H1 : Heap) (locs1 : List Loc), t.heap = H1 → s.vm.Alike t.vm → px u → BX E u t → H.size ≤ H1.size → (∀ q : Nat, q < H.size → ¬ AX q → H1[q]? = H[q]?) → va_S A0 H0 H1 locs1 → H1[q9]? = some ce → ce.vm = .none → s.vm.findClass E = some ce.cls → vx_W p l e R s m args below meth c H1 locs1 (cells + mc) (slots + ms) Q (F0 m pc ls rest) q9)
    (kk : ∀ (r : Int64) (u : S) (t : State) (H1 : Heap) (locs1 : List Loc), t.heap = H1 → s.vm.Alike t.vm → post r u → B u t → H.size ≤ H1.size → (∀ q : Nat, q < H.size → ¬ A1 q → H1[q]? = H[q]?) → va_S A0 H0 H1 locs1 → W p l e R s m args below meth c H1 locs1 (cells + mc) (slots + ms) Q (F0 m (pc + 3) ls (.long r :: rest))) : W p l e R s m args below meth c H locs cells slots Q (F0 m pc ls st0) := by
  intro T hT X
  rcases hr T hT X with ⟨v, st₀, t, T', L, h0, X', hL, e1, e2, ⟨⟨r, u, hv, hp, hb⟩, hF⟩, st⟩ | ⟨q, st₀, t, T', L, E, ce, h0, X', hL, e1, e2, ⟨u, hp, hb, hF⟩, hce, hcv, hcl, st⟩
  · cases hv
    obtain ⟨k1, k2, k3⟩ := vx_keep h0 e1 hS hA hf hL hF
    obtain ⟨t2, a1, b1⟩ := kk r u t T'.heap (locs ++ L) e1.symm (by rw [← e2]; exact X'.warmed.alike) hp hb k1 k2 k3 T' rfl X'
    exact ⟨t2, st t2 a1, b1⟩
  · obtain ⟨k1, k2, k3⟩ := vx_keep h0 e1 hS hAX hf hL hF
    obtain ⟨t2, a1, b1⟩ := kx E ce q u t T'.heap (locs ++ L) e1.symm (by rw [← e2]; exact X'.warmed.alike) hp hb k1 k2 k3 (by rw [e1]; exact hce) hcv hcl T' rfl X'
    exact ⟨t2, st.trans a1, b1⟩
theorem vx_callf {S SX : Type} {post : UInt32 → S → Prop} {px : SX → Prop} {B : S → State → Prop} {BX : String → SX → State → Prop} {AX : Nat → Prop} (hr : vx_Run p l e R s m args below meth c H locs cells slots mc ms (F0 m pc ls st0) rest (va_Qf post B A1 a) (vx_X px BX AX) free) (hS : va_S A0 H0 H locs) (hA : ∀ q, q < H.size → A1 q → A0 q) (hf : ∀ q, free q → A0 q) (hAX : ∀ q, q < H.size → AX q → A0 q)
    (kx : ∀ (E : String) (ce : Cell) (q9 : Addr) (u : SX) (t : State) (H1 : Heap) (locs1 : List Loc), t.heap = H1 → s.vm.Alike t.vm → px u → BX E u t → H.size ≤ H1.size → (∀ q : Nat, q < H.size → ¬ AX q → H1[q]? = H[q]?) → va_S A0 H0 H1 locs1 → H1[q9]? = some ce → ce.vm = .none → s.vm.findClass E = some ce.cls → vx_W p l e R s m args below meth c H1 locs1 (cells + mc) (slots + ms) Q (F0 m pc ls rest) q9)
    (kk : ∀ (r : UInt32) (u : S) (t : State) (H1 : Heap) (locs1 : List Loc), t.heap = H1 → s.vm.Alike t.vm → post r u → B u t → H.size ≤ H1.size → (∀ q : Nat, q < H.size → ¬ A1 q → H1[q]? = H[q]?) → va_S A0 H0 H1 locs1 → W p l e R s m args below meth c H1 locs1 (cells + mc) (slots + ms) Q (F0 m (pc + 3) ls (.float r :: rest))) : W p l e R s m args below meth c H locs cells slots Q (F0 m pc ls st0) := by
  intro T hT X
  rcases hr T hT X with ⟨v, st₀, t, T', L, h0, X', hL, e1, e2, ⟨⟨r, u, hv, hp, hb⟩, hF⟩, st⟩ | ⟨q, st₀, t, T', L, E, ce, h0, X', hL, e1, e2, ⟨u, hp, hb, hF⟩, hce, hcv, hcl, st⟩
  · cases hv
    obtain ⟨k1, k2, k3⟩ := vx_keep h0 e1 hS hA hf hL hF
    obtain ⟨t2, a1, b1⟩ := kk r u t T'.heap (locs ++ L) e1.symm (by rw [← e2]; exact X'.warmed.alike) hp hb k1 k2 k3 T' rfl X'
    exact ⟨t2, st t2 a1, b1⟩
  · obtain ⟨k1, k2, k3⟩ := vx_keep h0 e1 hS hAX hf hL hF
    obtain ⟨t2, a1, b1⟩ := kx E ce q u t T'.heap (locs ++ L) e1.symm (by rw [← e2]; exact X'.warmed.alike) hp hb k1 k2 k3 (by rw [e1]; exact hce) hcv hcl T' rfl X'
    exact ⟨t2, st.trans a1, b1⟩
theorem vx_calld {S SX : Type} {post : UInt64 → S → Prop} {px : SX → Prop} {B : S → State → Prop} {BX : String → SX → State → Prop} {AX : Nat → Prop} (hr : vx_Run p l e R s m args below meth c H locs cells slots mc ms (F0 m pc ls st0) rest (va_Qd post B A1 a) (vx_X px BX AX) free) (hS : va_S A0 H0 H locs) (hA : ∀ q, q < H.size → A1 q → A0 q) (hf : ∀ q, free q → A0 q) (hAX : ∀ q, q < H.size → AX q → A0 q)
    (kx : ∀ (E : String) (ce : Cell) (q9 : Addr) (u : SX) (t : State) (H1 : Heap) (locs1 : List Loc), t.heap = H1 → s.vm.Alike t.vm → px u → BX E u t → H.size ≤ H1.size → (∀ q : Nat, q < H.size → ¬ AX q → H1[q]? = H[q]?) → va_S A0 H0 H1 locs1 → H1[q9]? = some ce → ce.vm = .none → s.vm.findClass E = some ce.cls → vx_W p l e R s m args below meth c H1 locs1 (cells + mc) (slots + ms) Q (F0 m pc ls rest) q9)
    (kk : ∀ (r : UInt64) (u : S) (t : State) (H1 : Heap) (locs1 : List Loc), t.heap = H1 → s.vm.Alike t.vm → post r u → B u t → H.size ≤ H1.size → (∀ q : Nat, q < H.size → ¬ A1 q → H1[q]? = H[q]?) → va_S A0 H0 H1 locs1 → W p l e R s m args below meth c H1 locs1 (cells + mc) (slots + ms) Q (F0 m (pc + 3) ls (.double r :: rest))) : W p l e R s m args below meth c H locs cells slots Q (F0 m pc ls st0) := by
  intro T hT X
  rcases hr T hT X with ⟨v, st₀, t, T', L, h0, X', hL, e1, e2, ⟨⟨r, u, hv, hp, hb⟩, hF⟩, st⟩ | ⟨q, st₀, t, T', L, E, ce, h0, X', hL, e1, e2, ⟨u, hp, hb, hF⟩, hce, hcv, hcl, st⟩
  · cases hv
    obtain ⟨k1, k2, k3⟩ := vx_keep h0 e1 hS hA hf hL hF
    obtain ⟨t2, a1, b1⟩ := kk r u t T'.heap (locs ++ L) e1.symm (by rw [← e2]; exact X'.warmed.alike) hp hb k1 k2 k3 T' rfl X'
    exact ⟨t2, st t2 a1, b1⟩
  · obtain ⟨k1, k2, k3⟩ := vx_keep h0 e1 hS hAX hf hL hF
    obtain ⟨t2, a1, b1⟩ := kx E ce q u t T'.heap (locs ++ L) e1.symm (by rw [← e2]; exact X'.warmed.alike) hp hb k1 k2 k3 (by rw [e1]; exact hce) hcv hcl T' rfl X'
    exact ⟨t2, st.trans a1, b1⟩
theorem vx_callv {S SX : Type} {post : S → Prop} {px : SX → Prop} {B : S → State → Prop} {BX : String → SX → State → Prop} {AX : Nat → Prop} (hr : vx_Run p l e R s m args below meth c H locs cells slots mc ms (F0 m pc ls st0) rest (va_Qv post B A1 a) (vx_X px BX AX) free) (hS : va_S A0 H0 H locs) (hA : ∀ q, q < H.size → A1 q → A0 q) (hf : ∀ q, free q → A0 q) (hAX : ∀ q, q < H.size → AX q → A0 q)
    (kx : ∀ (E : String) (ce : Cell) (q9 : Addr) (u : SX) (t : State) (H1 : Heap) (locs1 : List Loc), t.heap = H1 → s.vm.Alike t.vm → px u → BX E u t → H.size ≤ H1.size → (∀ q : Nat, q < H.size → ¬ AX q → H1[q]? = H[q]?) → va_S A0 H0 H1 locs1 → H1[q9]? = some ce → ce.vm = .none → s.vm.findClass E = some ce.cls → vx_W p l e R s m args below meth c H1 locs1 (cells + mc) (slots + ms) Q (F0 m pc ls rest) q9)
    (kk : ∀ (u : S) (t : State) (H1 : Heap) (locs1 : List Loc), t.heap = H1 → s.vm.Alike t.vm → post u → B u t → H.size ≤ H1.size → (∀ q : Nat, q < H.size → ¬ A1 q → H1[q]? = H[q]?) → va_S A0 H0 H1 locs1 → W p l e R s m args below meth c H1 locs1 (cells + mc) (slots + ms) Q (F0 m (pc + 3) ls (rest))) : W p l e R s m args below meth c H locs cells slots Q (F0 m pc ls st0) := by
  intro T hT X
  rcases hr T hT X with ⟨v, st₀, t, T', L, h0, X', hL, e1, e2, ⟨⟨u, hv, hp, hb⟩, hF⟩, st⟩ | ⟨q, st₀, t, T', L, E, ce, h0, X', hL, e1, e2, ⟨u, hp, hb, hF⟩, hce, hcv, hcl, st⟩
  · cases hv
    obtain ⟨k1, k2, k3⟩ := vx_keep h0 e1 hS hA hf hL hF
    obtain ⟨t2, a1, b1⟩ := kk u t T'.heap (locs ++ L) e1.symm (by rw [← e2]; exact X'.warmed.alike) hp hb k1 k2 k3 T' rfl X'
    exact ⟨t2, st t2 a1, b1⟩
  · obtain ⟨k1, k2, k3⟩ := vx_keep h0 e1 hS hAX hf hL hF
    obtain ⟨t2, a1, b1⟩ := kx E ce q u t T'.heap (locs ++ L) e1.symm (by rw [← e2]; exact X'.warmed.alike) hp hb k1 k2 k3 (by rw [e1]; exact hce) hcv hcl T' rfl X'
    exact ⟨t2, st.trans a1, b1⟩
/-- caught by the row x of this method's table; the rows ahead don't take it -/
theorem vx_catch {own name : String} {E : String} {ce : Cell} {q : Addr} (hown : s.vm.findClass own = some m.cls) (pre : List ExceptionTableEntry) (x : ExceptionTableEntry) (suf : List ExceptionTableEntry) (hsplit : c.exceptionTable.toList = pre ++ x :: suf)
    (hpass : ∀ z ∈ pre, covers z pc = false ∨ (z.catchType ≠ 0 ∧ ∃ nm : String, (Cond.classLink own z.catchType nm).before args s = true ∧ va_Nc E nm s)) (hx : covers x pc = true) (h0 : x.catchType ≠ 0)
    (hlink : (Cond.classLink own x.catchType name).before args s = true) (hcast : (Cond.castable E name).before args s = true) (hcell : H[q]? = some ce) (hv : ce.vm = .none) (hcl : s.vm.findClass E = some ce.cls)
    (kk : W p l e R s m args below meth c H locs cells slots Q (F0 m x.handlerPc ls [.ref q])) : vx_W p l e R s m args below meth c H locs cells slots Q (F0 m pc ls rest) q := by
  intro T hT X
  have hpl : e.platform.magicAccessors = ({} : Platform).magicAccessors := by rw [X.admits.platform]
  obtain ⟨c3, c4, hc3, hc4, hasg⟩ := Cond.castable_spec hcast
  cases Option.some.inj (hc3.symm.trans hcl)
  obtain ⟨c5, hc5, hcl5⟩ := Cond.classLink_spec hown hlink e.platform hpl
  cases Option.some.inj (hc4.symm.trans hc5)
  obtain ⟨vm', X', st⟩ := X.thenCaughtThrough q (g := F0 m pc ls rest) rfl (Steps.refl _) (by rw [hT]; exact hcell) (by rw [hv]; rfl) (by obtain ⟨k9, h9, -⟩ := Vm.findClass_spec hcl; exact ⟨k9, h9⟩) pre x suf hsplit
    (fun z hz => by
      rcases hpass z hz with h | ⟨hz0, nm, hl1, hn1⟩
      · exact Or.inl h
      · obtain ⟨c6, hc6, hcl6⟩ := Cond.classLink_spec hown hl1 e.platform hpl
        obtain ⟨a8, b8, h1, h2, h3⟩ := hn1
        cases Option.some.inj (h1.symm.trans hcl)
        cases Option.some.inj (h2.symm.trans hc6)
        exact Or.inr ⟨hz0, _, hcl6, h3⟩) hx (Or.inr ⟨h0, c4, hcl5, hasg⟩)
  obtain ⟨t, a1, b1⟩ := kk (T.setVm vm') hT X'
  exact ⟨t, st.trans a1, b1⟩
end Rows
section Ends
variable {p : Program} {l : Launch} {e : Env} {R : Room} {s : State} {m : MethodId} {args : Array Value} {below : List Frame} {meth : Method} {c : Code} {H : Heap} {locs : List Loc} {cells slots : Nat} {Q : State → Prop}
variable {mc ms : Nat} {free : Addr → Prop} {A0 A1 : Nat → Prop} {H0 : Heap} {a : Array Value} {ls : Array Slot} {st0 rest : List Value}
variable {Qc : Array Value → State → Outcome → State → Prop} {XC : String → State → State → Prop}
/-- what a body that may throw owes at its end -/
def vx_MQ (below : List Frame) (Qc : Array Value → State → Outcome → State → Prop) (XC : String → State → State → Prop) (a : Array Value) (s : State) (mc ms : Nat) (free : Addr → Prop) : State → Prop := fun t =>
  ∃ o, t.status = .running ∧ Ended t below o ∧ vx_Q Qc XC mc ms free a s o t
theorem vx_ret {g : JFrame} {mc ms : Nat} (k : W p l e R s m args below meth c H locs cells slots (MQ below Qc args s mc ms free) g) : W p l e R s m args below meth c H locs cells slots (vx_MQ below Qc XC args s mc ms free) g := by
  intro T hT X
  obtain ⟨t, a1, o, b1, b2, b3, b4⟩ := k T hT X
  exact ⟨t, a1, o, b1, b2, Or.inl ⟨b3, b4⟩⟩
/-- not caught here: it goes on to the caller -/
theorem vx_widen {g : JFrame} {q : Addr} {k n : Nat} (h1 : cells ≤ k) (h2 : slots ≤ n) (kk : vx_W p l e R s m args below meth c H locs k n Q g q) : vx_W p l e R s m args below meth c H locs cells slots Q g q := fun T hT X => kk T hT (stand_widen X h1 h2)
theorem vx_out {pc : Nat} {E : String} {ce : Cell} {q : Addr} {mc ms : Nat} (hout : ∀ x ∈ c.exceptionTable.toList, covers x pc = false) (hlocks : meth.locks = false) (hcell : H[q]? = some ce) (hv : ce.vm = .none) (hcl : s.vm.findClass E = some ce.cls)
    (hx : ∀ t : State, t.heap = H → s.vm.Alike t.vm → XC E s t) (hf : ∀ z ∈ locs, free z.base) (hc : cells ≤ mc) (hs : slots ≤ ms) :
    vx_W p l e R s m args below meth c H locs cells slots (vx_MQ below Qc XC args s mc ms free) (F0 m pc ls rest) q := by
  intro T hT X
  obtain ⟨st1, hrun, hend, hW, hsm⟩ := X.leaveThrown q (g := F0 m pc ls rest) rfl rfl rfl hout hlocks
  have hcell9 : (T.setFrames (.throwing q :: below)).heap[q]? = some ce := by
    show T.heap[q]? = some ce
    rw [hT]; exact hcell
  exact ⟨_, st1, .threw q, hrun, hend, Or.inr ⟨q, rfl, E, ce, locs, hx _ hT hW.alike, hcell9, hv, hcl, hW, hsm.mono hc hs, hf⟩⟩
theorem vx_frame {U : State} {k n : Nat} (h : s.sameButNew ({ U with vm := s.vm } : State) locs k n) : s.heap.size ≤ U.heap.size ∧ ∀ q : Nat, q < s.heap.size → (∀ z ∈ locs, z.base ≠ q) → U.heap[q]? = s.heap[q]? := by
  obtain ⟨-, h2, -, -, -, h6⟩ := h
  refine ⟨h2, fun q hq hz => ?_⟩
  obtain ⟨c9, e1, e2, e3, e4⟩ := h6 q _ (Array.getElem?_eq_getElem hq)
  have hs : c9.slots = (s.heap[q]).slots := Array.ext_getElem? fun i => e4 i fun hm => hz _ hm rfl
  have h9 : c9 = s.heap[q] := by
    rw [hs] at e2
    exact e2
  have e5 : U.heap[q]? = some c9 := e1
  rw [e5, h9, Array.getElem?_eq_getElem hq]
/-- the words of a throw but the four that speak of the heap -/
def vx_no (w : Cond) : Bool := decide (w ≠ .isRef (.static Bundle.tN "UNASSIGNED_STACK" Bundle.steD)) && decide (w ≠ .isRef (.static Bundle.tN "SUPPRESSED_SENTINEL" Bundle.listD)) && decide (w ≠ .laysStatic Bundle.tN "UNASSIGNED_STACK" Bundle.steD) && decide (w ≠ .laysStatic Bundle.tN "SUPPRESSED_SENTINEL" Bundle.listD)
def vx_at0 (own : String) (ic : Nat) (X : String) (names : List String) : List Cond := (Bundle.ownAtoms0 own ic X names).filter vx_no
def vx_atS (own : String) (ic : Nat) (X : String) (names : List String) : List Cond := (Bundle.ownAtoms own ic X names).filter vx_no
/-- a word that the tables alone decide, or a good one -/
def vx_ot (w : Cond) : Bool := w.onTables || goodWord w
theorem vx_ot_at {args a' : Array Value} {s U : State} {w : Cond} (hW : s.WarmedH U.vm) (hvm : s.vm = U.vm) (hg : vx_ot w = true) (h : w.before args s = true) : w.before a' U = true := by
  simp only [vx_ot, Bool.or_eq_true] at hg
  rcases hg with hg | hg
  · exact va_tabs hg hvm h
  · exact word_at hW (good_of_word hg) h
/-- a list's words: the good ones out of the method's own list, the others by premises of their own -/
theorem vx_hat {args : Array Value} {s : State} {L B : List Cond} (h1 : ∀ w ∈ L.filter goodWord, w.before args s = true) (h2 : ∀ w ∈ L.filter (fun w => !goodWord w), w ∈ B) (h3 : ∀ w ∈ B, w.before args s = true) : ∀ w ∈ L, w.before args s = true := by
  intro w hw
  by_cases g : goodWord w = true
  · exact h1 w (List.mem_filter.mpr ⟨hw, g⟩)
  · refine h3 w (h2 w (List.mem_filter.mpr ⟨hw, ?_⟩))
    show (!goodWord w) = true
    cases hgw : goodWord w
    · rfl
    · exact absurd hgw g
theorem vx_c {args : Array Value} {s : State} {w : Cond} {B : List Cond} (h : w.before args s = true) (t : ∀ w ∈ B, w.before args s = true) : ∀ w' ∈ w :: B, w'.before args s = true := fun w' h' => (List.mem_cons.mp h').elim (fun e => by rw [e]; exact h) (t w')
theorem vx_n {args : Array Value} {s : State} : ∀ w ∈ ([] : List Cond), w.before args s = true := fun _ h => nomatch h
theorem vx_own {args : Array Value} {s : State} {L : List Cond} (h1 : ∀ w ∈ L.filter vx_no, w.before args s = true)
    (hU : (Cond.isRef (.static Bundle.tN "UNASSIGNED_STACK" Bundle.steD)).before args s = true) (hN : (Cond.isRef (.static Bundle.tN "SUPPRESSED_SENTINEL" Bundle.listD)).before args s = true)
    (lU : (Cond.laysStatic Bundle.tN "UNASSIGNED_STACK" Bundle.steD).before args s = true) (lN : (Cond.laysStatic Bundle.tN "SUPPRESSED_SENTINEL" Bundle.listD).before args s = true) : ∀ w ∈ L, w.before args s = true := by
  intro w hw
  by_cases e1 : w = .isRef (.static Bundle.tN "UNASSIGNED_STACK" Bundle.steD)
  · rw [e1]; exact hU
  · by_cases e2 : w = .isRef (.static Bundle.tN "SUPPRESSED_SENTINEL" Bundle.listD)
    · rw [e2]; exact hN
    · by_cases e3 : w = .laysStatic Bundle.tN "UNASSIGNED_STACK" Bundle.steD
      · rw [e3]; exact lU
      · by_cases e4 : w = .laysStatic Bundle.tN "SUPPRESSED_SENTINEL" Bundle.listD
        · rw [e4]; exact lN
        · exact h1 w (List.mem_filter.mpr ⟨hw, by unfold vx_no; rw [decide_eq_true e1, decide_eq_true e2, decide_eq_true e3, decide_eq_true e4]; rfl⟩)
/-- where a static field lies, its class's statics cell in H -/
def vx_L (C n d : String) (A : Nat → Prop) (U : State) (H : Heap) : Prop := ∃ (c : ClassId) (k : Class) (i : Nat) (f : Field) (a : Nat) (cell : Cell), U.vm.findClass C = some c ∧ U.fieldFound? C n d = some (c, k, i, f) ∧ f.isStatic = true ∧ k.statics = some a ∧ H[a]? = some cell ∧ cell.vm.isStatics = true ∧ cell.cls = c ∧ f.slot < cell.slots.size ∧ k.staticTypes[f.slot]? = some f.type ∧ ¬ A a
theorem vx_L.moved {C n d : String} {A : Nat → Prop} {u U : State} {H : Heap} (hvm : u.vm.Alike U.vm) (h : vx_L C n d A u H) : vx_L C n d A U H := by
  obtain ⟨c, k, i, f, a, cell, h1, h2, h3, h4, h5, h6, h7, h8, h9, h10⟩ := h
  obtain ⟨k', hi', he⟩ := State.fieldFound?_setVm hvm h2
  exact ⟨c, k', i, f, a, cell, by rw [hvm.findClass]; exact h1, hi', h3, by rw [he]; exact h4, h5, h6, h7, h8, by rw [he]; exact h9, h10⟩
theorem vx_L.kept {C n d : String} {A : Nat → Prop} {U : State} {H H1 : Heap} (h : vx_L C n d A U H) (hq : ∀ a : Nat, a < H.size → ¬ A a → H1[a]? = H[a]?) : vx_L C n d A U H1 := by
  obtain ⟨c, k, i, f, a, cell, h1, h2, h3, h4, h5, h6, h7, h8, h9, h10⟩ := h
  exact ⟨c, k, i, f, a, cell, h1, h2, h3, h4, by rw [hq a (Array.getElem?_eq_some_iff.mp h5).1 h10]; exact h5, h6, h7, h8, h9, h10⟩
theorem vx_L.narrow {C n d : String} {A B : Nat → Prop} {U : State} {H : Heap} (h : vx_L C n d A U H) (hAB : ∀ q, B q → A q) : vx_L C n d B U H := by
  obtain ⟨c, k, i, f, a, cell, h1, h2, h3, h4, h5, h6, h7, h8, h9, h10⟩ := h
  exact ⟨c, k, i, f, a, cell, h1, h2, h3, h4, h5, h6, h7, h8, h9, fun z => h10 (hAB _ z)⟩
theorem vx_L.word {C n d : String} {A : Nat → Prop} {s : State} {args : Array Value} (h : vx_L C n d A s s.heap) : (Cond.laysStatic C n d).before args s = true := by
  obtain ⟨c, k, i, f, a, cell, h1, h2, h3, h4, h5, h6, h7, h8, h9, -⟩ := h
  show (Cond.laysStatic C n d).holds args s none s [] = true
  exact Cond.laysStatic_of h1 h2 h3 h4 h5 h6 h7 h8 h9
/-- .. and what it holds: null or some reference -/
def vx_Zq (C n d : String) (A : Nat → Prop) (U : State) (H : Heap) : Prop := va_Zq C n d A U H ∧ vx_L C n d A U H
theorem vx_Zq.moved {C n d : String} {A : Nat → Prop} {u U : State} {H : Heap} (hvm : u.vm.Alike U.vm) (h : vx_Zq C n d A u H) : vx_Zq C n d A U H := ⟨va_Zq.moved hvm h.1, vx_L.moved hvm h.2⟩
theorem vx_Zq.kept {C n d : String} {A : Nat → Prop} {U : State} {H H1 : Heap} (h : vx_Zq C n d A U H) (hq : ∀ a : Nat, a < H.size → ¬ A a → H1[a]? = H[a]?) : vx_Zq C n d A U H1 := ⟨va_Zq.kept h.1 hq, vx_L.kept h.2 hq⟩
theorem vx_Zq.narrow {C n d : String} {A B : Nat → Prop} {U : State} {H : Heap} (h : vx_Zq C n d A U H) (hAB : ∀ q, B q → A q) : vx_Zq C n d B U H := ⟨va_Zq.narrow h.1 hAB, vx_L.narrow h.2 hAB⟩
theorem vx_Zqof {args : Array Value} {s : State} {C n d : String} {A : Nat → Prop} (hl : (Cond.laysStatic C n d).before args s = true) (hini : (Cond.initialized C).before args s = true) (h : (Cond.isRef (.static C n d)).before args s = true) (hA : ∀ a : Nat, a < s.heap.size → ¬ A a) : vx_Zq C n d A s s.heap := by
  refine ⟨va_Zqof hl hini h hA, ?_⟩
  obtain ⟨c, k, i, f, a, cell, h1, h2, h3, h4, h5, h6, h7, h8, h9⟩ := Cond.laysStatic_spec hl
  exact ⟨c, k, i, f, a, cell, h1, h2, h3, h4, h5, h6, h7, h8, h9, hA a (Array.getElem?_eq_some_iff.mp h5).1⟩
theorem vx_isRef {C n d : String} {v : Value} {A : Nat → Prop} {s : State} {args : Array Value} (h : va_Z C n d v A s s.heap) (hv : v.isRef = true) : (Cond.isRef (.static C n d)).before args s = true := by
  obtain ⟨cf, kf, fi, f, a, cell, h1, h2, h3, h4, h5, h6, h7, -⟩ := h
  have he : (Term.static C n d).eval args s none [] s = some v := by
    simp [Term.eval, State.fieldNamed?, h1, h2, h4, h5, h6, h7]
  simp only [Cond.before, Cond.holds, Cond.value, he]
  cases v <;> simp_all [Value.isRef]
theorem vx_isRefq {C n d : String} {A : Nat → Prop} {s : State} {args : Array Value} (h : va_Zq C n d A s s.heap) : (Cond.isRef (.static C n d)).before args s = true := by
  rcases h with h | ⟨t, h⟩
  · exact vx_isRef h rfl
  · exact vx_isRef h rfl
/-- the same frame, seen from here: as if the method were called anew in this heap -/
theorem vx_rebase {T : State} (X : Stand p l e R s m args below meth c T locs cells slots) {R' : Room} (hf : R'.frames ≤ R.frames) (hl : R'.locals ≤ R.locals) (hc : cells + R'.cells ≤ R.cells) (hs : slots + R'.slots ≤ R.slots) :
    Stand p l e R' ((T.setVm s.vm).setFrames (.invoking m args :: below)) m args below meth c T [] 0 0 := by
  have htop : (T.setVm s.vm).topJava?.isSome := X.here.top
  have hF : ((T.setVm s.vm).setFrames (.invoking m args :: below)).frames = .invoking m args :: below := State.frames_setFrames _ (State.cur_lt_of_top htop)
  obtain ⟨g₀, hg0⟩ := Option.isSome_iff_exists.mp htop
  obtain ⟨r, hr⟩ := State.topJava?_eq_some.mp hg0
  have hl9 : e.platform.stackLimits (T.setVm s.vm).me = e.platform.stackLimits s.me := X.limits
  have hb9 : (T.setVm s.vm).me.stackBytes = s.me.stackBytes := X.bytes
  refine ⟨X.admits, X.cas, X.clock, hF, ?_, X.hears, X.method, X.code, X.here, X.tail, X.warmed, ?_, ?_, ?_⟩
  · have h := X.room
    have hU : ((T.setVm s.vm).setFrames (.invoking m args :: below)).localsInUse = s.localsInUse := by
      rw [State.localsInUse_invoking hF (meth := meth) (c := c) X.method X.code, State.localsInUse_invoking X.frames X.method X.code]
    simp only [State.hasRoom, Bool.and_eq_true, decide_eq_true_eq] at h ⊢
    obtain ⟨⟨⟨⟨h1, h2, h3, h4, h5, h6⟩, h7⟩, h8⟩, h9⟩ := h
    rw [X.frames, List.length_cons] at h2 h3
    have q1 := X.heapSize
    have q2 := X.used
    simp only [hF, hU, List.length_cons, State.stackLimits_setFrames, State.stackBytes_setFrames, hl9, hb9]
    refine ⟨⟨⟨⟨by omega, by omega, by omega, by omega, by omega, h6⟩, ?_⟩, ?_⟩, X.book⟩
    · show T.heap.size + R'.cells ≤ e.platform.maxCells
      omega
    · show T.slotsUsed + R'.slots ≤ e.platform.maxSlots
      omega
  · rw [State.stackLimits_setFrames]; rfl
  · rw [State.stackBytes_setFrames]; rfl
  · refine ⟨?_, Nat.le_refl _, Nat.le_refl _, ?_, ?_, fun a c9 h9 => ⟨c9, h9, rfl, rfl, fun _ _ => rfl⟩⟩
    · obtain ⟨t, ht, -⟩ := State.frames_cons hr
      show T.setVm s.vm = { ((T.setVm s.vm).setFrames (.invoking m args :: below)).setFrames (T.setVm s.vm).frames with heap := T.heap, slotsUsed := T.slotsUsed }
      rw [State.setFrames_setFrames, State.setFrames_self ht]
      rfl
    · show T.slotsUsed = T.slotsUsed + ((T.heap.toList.drop T.heap.size).map (·.slots.size)).sum
      rw [List.drop_eq_nil_of_le (Nat.le_of_eq Array.length_toList)]
      rfl
    · show ((T.heap.toList.drop T.heap.size).map (·.slots.size)).sum ≤ 0
      rw [List.drop_eq_nil_of_le (Nat.le_of_eq Array.length_toList)]
      exact Nat.le_refl _
/-- 'throw new E()': new; dup; invokespecial; athrow -/
theorem vx_throw0 {cc : ByteArray} {pc : Nat} (hexec : p.tables.exec = Jvm.exec) (hb : c.code = cc) (hl : l.stackTraces = false) {own cls : String} {names : List String} {ik ic mc ms : Nat} {A : Nat → Prop}
    (hown : s.vm.findClass own = some m.cls) (hcls : Bundle.fit cls = true) (hnames : ∀ n ∈ names, Bundle.fit n = true)
    (hk : (Cond.classLink own ik cls).before args s = true) (hini : (Cond.initialized cls).before args s = true) (hat : ∀ w ∈ vx_at0 own ic cls names, w.before args s = true)
    (hgood : ∀ w ∈ Cond.classLink own ik cls :: Cond.initialized cls :: vx_at0 own ic cls names, vx_ot w = true)
    (hU : vx_Zq Bundle.tN "UNASSIGNED_STACK" Bundle.steD A s s.heap) (hN : vx_Zq Bundle.tN "SUPPRESSED_SENTINEL" Bundle.listD A s s.heap) (hS : va_S A s.heap H locs) (hsize : ls.size = c.maxLocals)
    (d0 : decode cc pc = .ok (.new ik, 3)) (d3 : decode cc (pc + 3) = .ok (.dup, 1)) (d4 : decode cc (pc + 4) = .ok (.invokespecial ic, 3)) (d7 : decode cc (pc + 7) = .ok (.athrow, 1))
    (hout : ∀ x ∈ c.exceptionTable.toList, covers x (pc + 7) = false)
    (hRframes : names.length + 3 < R.frames) (hRlocals : (rest.map fun v => v.category).sum + (13 * (names.length + 1) + 42) ≤ R.locals) (hRcells : cells + 1 ≤ R.cells) (hRslots : slots + 6 ≤ R.slots) (hlocks : meth.locks = false)
    (hx : ∀ t : State, s.vm.Alike t.vm → H.size ≤ t.heap.size → (∀ q : Nat, q < H.size → t.heap[q]? = H[q]?) → XC cls s t)
    (hf : ∀ z ∈ locs, free z.base) (hc : cells + 1 ≤ mc) (hs : slots + 6 ≤ ms) :
    W p l e R s m args below meth c H locs cells slots (vx_MQ below Qc XC args s mc ms free) (F0 m pc ls rest) := by
  intro T hT X
  have htr : e.platform.stackTraces = false := (show e.platform.stackTraces = l.stackTraces by rw [X.admits.platform]).trans hl
  have Y := vx_rebase X (R' := { frames := R.frames, locals := R.locals, cells := 1, slots := 6 }) (Nat.le_refl _) (Nat.le_refl _) hRcells hRslots
  obtain ⟨s', hA⟩ : ∃ z, z = (T.setVm s.vm).setFrames (.invoking m args :: below) := ⟨_, rfl⟩
  rw [← hA] at Y
  have hvm : s'.vm = s.vm := by rw [hA]; rfl
  have hhp : s'.heap = H := by rw [hA]; exact hT
  have hW0 : s.WarmedH s'.vm := by rw [hvm]; exact State.WarmedH.refl s
  have hat' : ∀ w ∈ vx_at0 own ic cls names, w.before args s' = true := fun w hw => vx_ot_at hW0 hvm.symm (hgood w (List.mem_cons_of_mem _ (List.mem_cons_of_mem _ hw))) (hat w hw)
  have hk' : (Cond.classLink own ik cls).before args s' = true := vx_ot_at hW0 hvm.symm (hgood _ List.mem_cons_self) hk
  have hini' : (Cond.initialized cls).before args s' = true := vx_ot_at hW0 hvm.symm (hgood _ (List.mem_cons_of_mem _ List.mem_cons_self)) hini
  have hU' : vx_Zq Bundle.tN "UNASSIGNED_STACK" Bundle.steD A s' s'.heap := by rw [hhp]; exact vx_Zq.moved hW0.alike (hU.kept hS.2.1)
  have hN' : vx_Zq Bundle.tN "SUPPRESSED_SENTINEL" Bundle.listD A s' s'.heap := by rw [hhp]; exact vx_Zq.moved hW0.alike (hN.kept hS.2.1)
  have h : ∀ w ∈ Bundle.ownAtoms0 own ic cls names, w.before args s' = true := vx_own hat' (vx_isRefq hU'.1) (vx_isRefq hN'.1) hU'.2.word hN'.2.word
  have hown' : s'.vm.findClass own = some m.cls := by rw [hvm]; exact hown
  have hins : (Cond.instantiable cls 6).before args s' = true := h _ (by simp [Bundle.ownAtoms0])
  obtain ⟨vm₁, cX, kX, hfX, hkX, -, -, X₁, st1⟩ := Y.newCold hexec (own := own) (C := cls) (index := ik) (n := 6) hown' hk' hins hini'
    (g := F0 m pc ls rest) rfl (by rw [hb]; exact d0) (Nat.le_refl _) (Nat.le_refl _)
  generalize hT1 : (T.setVm vm₁).pushCell { cls := cX, slots := kX.instanceTypes.map defaultValue, vm := .none } = T1 at X₁ st1
  have hcat : (Value.ref T.heap.size).category = 1 := rfl
  have hcellA : T1.heap[T.heap.size]? = some (freshCell cX kX) := by rw [← hT1]; exact State.heap_pushCell_size _ _
  have d3' : decode c.code (pc + 3) = .ok (.dup, 1) := by rw [hb]; exact d3
  obtain ⟨U, hsteps, hrun, hend, hW, hsame, ce, hce, hO⟩ := X₁.ctorThrow0 hexec htr (own := own) (cls := cls) (names := names) (ic := ic) hown' hcls hnames h (fun x hx => nomatch hx) hfX hkX hcellA (by rw [hhp, hT]; exact Nat.le_refl _)
    (g := { method := m, pc := pc + 4, locals := ls, stack := .ref T.heap.size :: .ref T.heap.size :: rest, locked := none }) rfl hsize rfl rfl (rest := rest) rfl
    (by rw [hb]; exact d4) (by rw [hb]; exact d7) hout hRframes (by simp only [List.map_cons, List.sum_cons, hcat]; omega) hlocks
  obtain ⟨f1, f2⟩ := vx_frame hsame
  rw [hhp] at f1 f2
  have hWs : s.WarmedH U.vm := State.WarmedH.trans hW0 hW
  have hcl : s.vm.findClass cls = some ce.cls := by
    have h9 := hO.cls
    rw [hvm] at h9
    exact h9
  have hall : s.sameButNew ({ U with vm := s.vm } : State) locs mc ms := by
    subst hA
    obtain ⟨e1, e2⟩ := hsame
    rw [State.setFrames_setFrames] at e1
    have h2 : (T.setVm s.vm).sameButNew ({ U with vm := s.vm } : State) [] (0 + 1) (0 + 6) := ⟨e1, e2⟩
    have h3 := X.same.trans h2
    rw [List.append_nil] at h3
    exact h3.mono hc hs
  refine ⟨U, ?_, .threw T.heap.size, hrun, hend, Or.inr ⟨T.heap.size, rfl, cls, ce, locs, hx U hWs.alike f1 (fun q hq => f2 q hq (fun z hz => nomatch hz)), hce, hO.vm, hcl, hWs, hall, hf⟩⟩
  refine st1 _ ?_
  show Steps p.tables e below (T1.setTop { method := m, pc := pc + 3, locals := ls, stack := .ref T.heap.size :: rest, locked := none }) _
  jvm_step X₁.here [X₁.here.top, hexec, d3', Value.category]
  exact hsteps
/-- 'throw new E("text")': new; dup; ldc; invokespecial; athrow -/
theorem vx_throwS {cc : ByteArray} {pc : Nat} (hexec : p.tables.exec = Jvm.exec) (hb : c.code = cc) (hl : l.stackTraces = false) {own cls text : String} {names : List String} {ik is ic mc ms sa : Nat} {A : Nat → Prop}
    (hown : s.vm.findClass own = some m.cls) (hcls : Bundle.fit cls = true) (hnames : ∀ n ∈ names, Bundle.fit n = true)
    (hk : (Cond.classLink own ik cls).before args s = true) (hini : (Cond.initialized cls).before args s = true) (hstr : vk_R own is text sa s) (hat : ∀ w ∈ vx_atS own ic cls names, w.before args s = true)
    (hgood : ∀ w ∈ Cond.classLink own ik cls :: Cond.initialized cls :: vx_atS own ic cls names, vx_ot w = true)
    (hU : vx_Zq Bundle.tN "UNASSIGNED_STACK" Bundle.steD A s s.heap) (hN : vx_Zq Bundle.tN "SUPPRESSED_SENTINEL" Bundle.listD A s s.heap) (hS : va_S A s.heap H locs) (hsize : ls.size = c.maxLocals)
    (d0 : decode cc pc = .ok (.new ik, 3)) (d3 : decode cc (pc + 3) = .ok (.dup, 1)) (d4 : decode cc (pc + 4) = .ok (.ldc is, 2)) (d6 : decode cc (pc + 6) = .ok (.invokespecial ic, 3)) (d9 : decode cc (pc + 9) = .ok (.athrow, 1))
    (hout : ∀ x ∈ c.exceptionTable.toList, covers x (pc + 9) = false)
    (hRframes : names.length + 3 < R.frames) (hRlocals : (rest.map fun v => v.category).sum + (13 * (names.length + 1) + 43) ≤ R.locals) (hRcells : cells + 1 ≤ R.cells) (hRslots : slots + 6 ≤ R.slots) (hlocks : meth.locks = false)
    (hx : ∀ t : State, s.vm.Alike t.vm → H.size ≤ t.heap.size → (∀ q : Nat, q < H.size → t.heap[q]? = H[q]?) → XC cls s t)
    (hf : ∀ z ∈ locs, free z.base) (hc : cells + 1 ≤ mc) (hs : slots + 6 ≤ ms) :
    W p l e R s m args below meth c H locs cells slots (vx_MQ below Qc XC args s mc ms free) (F0 m pc ls rest) := by
  intro T hT X
  have htr : e.platform.stackTraces = false := (show e.platform.stackTraces = l.stackTraces by rw [X.admits.platform]).trans hl
  have Y := vx_rebase X (R' := { frames := R.frames, locals := R.locals, cells := 1, slots := 6 }) (Nat.le_refl _) (Nat.le_refl _) hRcells hRslots
  obtain ⟨s', hA⟩ : ∃ z, z = (T.setVm s.vm).setFrames (.invoking m args :: below) := ⟨_, rfl⟩
  rw [← hA] at Y
  have hvm : s'.vm = s.vm := by rw [hA]; rfl
  have hhp : s'.heap = H := by rw [hA]; exact hT
  have hW0 : s.WarmedH s'.vm := by rw [hvm]; exact State.WarmedH.refl s
  have hat' : ∀ w ∈ vx_atS own ic cls names, w.before args s' = true := fun w hw => vx_ot_at hW0 hvm.symm (hgood w (List.mem_cons_of_mem _ (List.mem_cons_of_mem _ hw))) (hat w hw)
  have hk' : (Cond.classLink own ik cls).before args s' = true := vx_ot_at hW0 hvm.symm (hgood _ List.mem_cons_self) hk
  have hini' : (Cond.initialized cls).before args s' = true := vx_ot_at hW0 hvm.symm (hgood _ (List.mem_cons_of_mem _ List.mem_cons_self)) hini
  have hU' : vx_Zq Bundle.tN "UNASSIGNED_STACK" Bundle.steD A s' s'.heap := by rw [hhp]; exact vx_Zq.moved hW0.alike (hU.kept hS.2.1)
  have hN' : vx_Zq Bundle.tN "SUPPRESSED_SENTINEL" Bundle.listD A s' s'.heap := by rw [hhp]; exact vx_Zq.moved hW0.alike (hN.kept hS.2.1)
  have h : ∀ w ∈ Bundle.ownAtoms own ic cls names, w.before args s' = true := vx_own hat' (vx_isRefq hU'.1) (vx_isRefq hN'.1) hU'.2.word hN'.2.word
  have hown' : s'.vm.findClass own = some m.cls := by rw [hvm]; exact hown
  have hins : (Cond.instantiable cls 6).before args s' = true := h _ (by simp [Bundle.ownAtoms])
  obtain ⟨vm₁, cX, kX, hfX, hkX, -, -, X₁, st1⟩ := Y.newCold hexec (own := own) (C := cls) (index := ik) (n := 6) hown' hk' hins hini'
    (g := F0 m pc ls rest) rfl (by rw [hb]; exact d0) (Nat.le_refl _) (Nat.le_refl _)
  generalize hT1 : (T.setVm vm₁).pushCell { cls := cX, slots := kX.instanceTypes.map defaultValue, vm := .none } = T1 at X₁ st1
  have hcat : (Value.ref T.heap.size).category = 1 := rfl
  have hcellA : T1.heap[T.heap.size]? = some (freshCell cX kX) := by rw [← hT1]; exact State.heap_pushCell_size _ _
  have d3' : decode c.code (pc + 3) = .ok (.dup, 1) := by rw [hb]; exact d3
  have d4' : decode c.code (pc + 4) = .ok (.ldc is, 2) := by rw [hb]; exact d4
  have hstr' : vk_R own is text sa s' := vk_R.warm hW0 hstr
  obtain ⟨U, hsteps, hrun, hend, hW, hsame, ce, hce, hO⟩ := X₁.ctorThrowS hexec htr (own := own) (cls := cls) (names := names) (ic := ic) hown' hcls hnames h (fun x hx => nomatch hx) hfX hkX hcellA (by rw [hhp, hT]; exact Nat.le_refl _) (msg := .ref sa) rfl
    (g := { method := m, pc := pc + 6, locals := ls, stack := .ref sa :: .ref T.heap.size :: .ref T.heap.size :: rest, locked := none }) rfl hsize rfl rfl (rest := rest) rfl
    (by rw [hb]; exact d6) (by rw [hb]; exact d9) hout hRframes (by simp only [List.map_cons, List.sum_cons, hcat]; omega) hlocks
  obtain ⟨f1, f2⟩ := vx_frame hsame
  rw [hhp] at f1 f2
  have hWs : s.WarmedH U.vm := State.WarmedH.trans hW0 hW
  have hcl : s.vm.findClass cls = some ce.cls := by
    have h9 := hO.cls
    rw [hvm] at h9
    exact h9
  have hall : s.sameButNew ({ U with vm := s.vm } : State) locs mc ms := by
    subst hA
    obtain ⟨e1, e2⟩ := hsame
    rw [State.setFrames_setFrames] at e1
    have h2 : (T.setVm s.vm).sameButNew ({ U with vm := s.vm } : State) [] (0 + 1) (0 + 6) := ⟨e1, e2⟩
    have h3 := X.same.trans h2
    rw [List.append_nil] at h3
    exact h3.mono hc hs
  refine ⟨U, ?_, .threw T.heap.size, hrun, hend, Or.inr ⟨T.heap.size, rfl, cls, ce, locs, hx U hWs.alike f1 (fun q hq => f2 q hq (fun z hz => nomatch hz)), hce, hO.vm, hcl, hWs, hall, hf⟩⟩
  refine st1 _ ?_
  show Steps p.tables e below (T1.setTop { method := m, pc := pc + 3, locals := ls, stack := .ref T.heap.size :: rest, locked := none }) _
  jvm_step X₁.here [X₁.here.top, hexec, d3', Value.category]
  exact X₁.ldcString hexec (own := own) (text := text) (index := is) (a := sa) hown' hstr'.1 hstr'.2
    (g := { method := m, pc := pc + 4, locals := ls, stack := .ref T.heap.size :: .ref T.heap.size :: rest, locked := none }) rfl d4' _ hsteps
/-- 'throw new E("text")', the text by a wide index -/
theorem vx_throwSW {cc : ByteArray} {pc : Nat} (hexec : p.tables.exec = Jvm.exec) (hb : c.code = cc) (hl : l.stackTraces = false) {own cls text : String} {names : List String} {ik is ic mc ms sa : Nat} {A : Nat → Prop}
    (hown : s.vm.findClass own = some m.cls) (hcls : Bundle.fit cls = true) (hnames : ∀ n ∈ names, Bundle.fit n = true)
    (hk : (Cond.classLink own ik cls).before args s = true) (hini : (Cond.initialized cls).before args s = true) (hstr : vk_R own is text sa s) (hat : ∀ w ∈ vx_atS own ic cls names, w.before args s = true)
    (hgood : ∀ w ∈ Cond.classLink own ik cls :: Cond.initialized cls :: vx_atS own ic cls names, vx_ot w = true)
    (hU : vx_Zq Bundle.tN "UNASSIGNED_STACK" Bundle.steD A s s.heap) (hN : vx_Zq Bundle.tN "SUPPRESSED_SENTINEL" Bundle.listD A s s.heap) (hS : va_S A s.heap H locs) (hsize : ls.size = c.maxLocals)
    (d0 : decode cc pc = .ok (.new ik, 3)) (d3 : decode cc (pc + 3) = .ok (.dup, 1)) (d4 : decode cc (pc + 4) = .ok (.ldc_w is, 3)) (d7 : decode cc (pc + 7) = .ok (.invokespecial ic, 3)) (d10 : decode cc (pc + 10) = .ok (.athrow, 1))
    (hout : ∀ x ∈ c.exceptionTable.toList, covers x (pc + 10) = false)
    (hRframes : names.length + 3 < R.frames) (hRlocals : (rest.map fun v => v.category).sum + (13 * (names.length + 1) + 43) ≤ R.locals) (hRcells : cells + 1 ≤ R.cells) (hRslots : slots + 6 ≤ R.slots) (hlocks : meth.locks = false)
    (hx : ∀ t : State, s.vm.Alike t.vm → H.size ≤ t.heap.size → (∀ q : Nat, q < H.size → t.heap[q]? = H[q]?) → XC cls s t)
    (hf : ∀ z ∈ locs, free z.base) (hc : cells + 1 ≤ mc) (hs : slots + 6 ≤ ms) :
    W p l e R s m args below meth c H locs cells slots (vx_MQ below Qc XC args s mc ms free) (F0 m pc ls rest) := by
  intro T hT X
  have htr : e.platform.stackTraces = false := (show e.platform.stackTraces = l.stackTraces by rw [X.admits.platform]).trans hl
  have Y := vx_rebase X (R' := { frames := R.frames, locals := R.locals, cells := 1, slots := 6 }) (Nat.le_refl _) (Nat.le_refl _) hRcells hRslots
  obtain ⟨s', hA⟩ : ∃ z, z = (T.setVm s.vm).setFrames (.invoking m args :: below) := ⟨_, rfl⟩
  rw [← hA] at Y
  have hvm : s'.vm = s.vm := by rw [hA]; rfl
  have hhp : s'.heap = H := by rw [hA]; exact hT
  have hW0 : s.WarmedH s'.vm := by rw [hvm]; exact State.WarmedH.refl s
  have hat' : ∀ w ∈ vx_atS own ic cls names, w.before args s' = true := fun w hw => vx_ot_at hW0 hvm.symm (hgood w (List.mem_cons_of_mem _ (List.mem_cons_of_mem _ hw))) (hat w hw)
  have hk' : (Cond.classLink own ik cls).before args s' = true := vx_ot_at hW0 hvm.symm (hgood _ List.mem_cons_self) hk
  have hini' : (Cond.initialized cls).before args s' = true := vx_ot_at hW0 hvm.symm (hgood _ (List.mem_cons_of_mem _ List.mem_cons_self)) hini
  have hU' : vx_Zq Bundle.tN "UNASSIGNED_STACK" Bundle.steD A s' s'.heap := by rw [hhp]; exact vx_Zq.moved hW0.alike (hU.kept hS.2.1)
  have hN' : vx_Zq Bundle.tN "SUPPRESSED_SENTINEL" Bundle.listD A s' s'.heap := by rw [hhp]; exact vx_Zq.moved hW0.alike (hN.kept hS.2.1)
  have h : ∀ w ∈ Bundle.ownAtoms own ic cls names, w.before args s' = true := vx_own hat' (vx_isRefq hU'.1) (vx_isRefq hN'.1) hU'.2.word hN'.2.word
  have hown' : s'.vm.findClass own = some m.cls := by rw [hvm]; exact hown
  have hins : (Cond.instantiable cls 6).before args s' = true := h _ (by simp [Bundle.ownAtoms])
  obtain ⟨vm₁, cX, kX, hfX, hkX, -, -, X₁, st1⟩ := Y.newCold hexec (own := own) (C := cls) (index := ik) (n := 6) hown' hk' hins hini'
    (g := F0 m pc ls rest) rfl (by rw [hb]; exact d0) (Nat.le_refl _) (Nat.le_refl _)
  generalize hT1 : (T.setVm vm₁).pushCell { cls := cX, slots := kX.instanceTypes.map defaultValue, vm := .none } = T1 at X₁ st1
  have hcat : (Value.ref T.heap.size).category = 1 := rfl
  have hcellA : T1.heap[T.heap.size]? = some (freshCell cX kX) := by rw [← hT1]; exact State.heap_pushCell_size _ _
  have d3' : decode c.code (pc + 3) = .ok (.dup, 1) := by rw [hb]; exact d3
  have d4' : decode c.code (pc + 4) = .ok (.ldc_w is, 3) := by rw [hb]; exact d4
  have hstr' : vk_R own is text sa s' := vk_R.warm hW0 hstr
  obtain ⟨U, hsteps, hrun, hend, hW, hsame, ce, hce, hO⟩ := X₁.ctorThrowS hexec htr (own := own) (cls := cls) (names := names) (ic := ic) hown' hcls hnames h (fun x hx => nomatch hx) hfX hkX hcellA (by rw [hhp, hT]; exact Nat.le_refl _) (msg := .ref sa) rfl
    (g := { method := m, pc := pc + 7, locals := ls, stack := .ref sa :: .ref T.heap.size :: .ref T.heap.size :: rest, locked := none }) rfl hsize rfl rfl (rest := rest) rfl
    (by rw [hb]; exact d7) (by rw [hb]; exact d10) hout hRframes (by simp only [List.map_cons, List.sum_cons, hcat]; omega) hlocks
  obtain ⟨f1, f2⟩ := vx_frame hsame
  rw [hhp] at f1 f2
  have hWs : s.WarmedH U.vm := State.WarmedH.trans hW0 hW
  have hcl : s.vm.findClass cls = some ce.cls := by
    have h9 := hO.cls
    rw [hvm] at h9
    exact h9
  have hall : s.sameButNew ({ U with vm := s.vm } : State) locs mc ms := by
    subst hA
    obtain ⟨e1, e2⟩ := hsame
    rw [State.setFrames_setFrames] at e1
    have h2 : (T.setVm s.vm).sameButNew ({ U with vm := s.vm } : State) [] (0 + 1) (0 + 6) := ⟨e1, e2⟩
    have h3 := X.same.trans h2
    rw [List.append_nil] at h3
    exact h3.mono hc hs
  refine ⟨U, ?_, .threw T.heap.size, hrun, hend, Or.inr ⟨T.heap.size, rfl, cls, ce, locs, hx U hWs.alike f1 (fun q hq => f2 q hq (fun z hz => nomatch hz)), hce, hO.vm, hcl, hWs, hall, hf⟩⟩
  refine st1 _ ?_
  show Steps p.tables e below (T1.setTop { method := m, pc := pc + 3, locals := ls, stack := .ref T.heap.size :: rest, locked := none }) _
  jvm_step X₁.here [X₁.here.top, hexec, d3', Value.category]
  exact X₁.ldcStringW hexec (own := own) (text := text) (index := is) (a := sa) hown' hstr'.1 hstr'.2
    (g := { method := m, pc := pc + 4, locals := ls, stack := .ref T.heap.size :: .ref T.heap.size :: rest, locked := none }) rfl d4' _ hsteps
end Ends
section Bodies
variable {l : Launch}
theorem vx_ofW {y : MethodName} {ws ws' : List Cond} {rm : Room} {Pc : Array Value → State → Prop} {Qc : Array Value → State → Outcome → State → Prop} {XC : String → State → State → Prop} {mc ms : Nat} {free : Addr → Prop} {cc : ByteArray} {maxL : Nat} {ret : Option FieldType}
    (hy : plainName y.cls = true) (hw : ws = Cond.code y cc maxL ret :: ws')
    (body : ∀ p e s m args below meth c s₁, BodyLoose p l y (headSpec ws rm) cc maxL ret e s m args below meth c s₁ → c.maxLocals = maxL → (∀ x ∈ c.exceptionTable.toList, False) → Pc args s →
      W p l e (headSpec ws rm).room s m args below meth c s.heap [] 0 0 (vx_MQ below Qc XC args s mc ms free) (entryFrame m args maxL)) : vx_Met l y ws rm Pc Qc XC mc ms free := by
  refine MetFree.of_bodyS (code := cc) (maxLocals := maxL) (ret := ret) hy ?_ ?_
  · intro args s m h hn
    obtain ⟨meth, c, h1, h2, h3, h4, h5, h6, -, -⟩ := Cond.code_spec hn (atoms_spec (ws := ws) h _ (by rw [hw]; exact List.mem_cons_self))
    exact ⟨meth, c, h1, h2, h3, h4, h5, h6⟩
  · intro p e s m args below meth c s₁ B hml hP _
    have hh0 : s₁.heap = s.heap := by rw [B.state]; rfl
    have ht : ∀ x ∈ c.exceptionTable.toList, False := by
      obtain ⟨meth9, c9, h1, h2, -, -, -, -, h7, -⟩ := Cond.code_spec B.named (atoms_spec (ws := ws) B.pre _ (by rw [hw]; exact List.mem_cons_self))
      cases Option.some.inj (h1.symm.trans B.method)
      cases Option.some.inj (h2.symm.trans (Stand.of_body B).code)
      intro x hx
      rw [Array.isEmpty_iff.mp h7] at hx
      cases hx
    obtain ⟨t, a1, o, b1, b2, b3⟩ := body p e s m args below meth c s₁ B hml ht hP s₁ hh0 (Stand.of_body B)
    exact ⟨t, o, a1, b1, b2, b3⟩
/-- the table of a body with handlers -/
theorem vx_table {p : Program} {x y : MethodName} {S : Spec} {cc bytes : ByteArray} {maxL maxL' : Nat} {ret ret' : Option FieldType} {e : Env} {s s₁ : State} {m : MethodId} {args : Array Value} {below : List Frame} {meth : Method} {c : Code} {hh : List (Nat × Nat × Nat × Nat)}
    (B : BodyLoose p l y S cc maxL ret e s m args below meth c s₁) (h : (Cond.codeWith y bytes maxL' ret' hh).before args s = true) : c.exceptionTable.toList = tableOf hh := by
  obtain ⟨m9, meth9, c9, hn9, h1, h2, -, -, h6, -⟩ := Cond.codeWith_spec h
  cases Option.some.inj (hn9.symm.trans B.named)
  cases Option.some.inj (h1.symm.trans B.method)
  cases Option.some.inj (h2.symm.trans (Stand.of_body B).code)
  rw [← h6, table_eq]
end Bodies
end VXA
/-! ===== END ===== -/
/-! ===== BEGIN a static call of a method with an exception table ===== -/
section VXS
variable {p : Program} {l : Launch} {e : Env} {R : Room} {s : State} {m : MethodId} {args : Array Value} {below : List Frame} {meth : Method} {c : Code} {T : State} {H : Heap} {locs : List Loc} {cells slots : Nat}
abbrev vx_CSW (R : Room) (s : State) (args : Array Value) (own : String) (index : Nat) (y : MethodName) (bytes : ByteArray) (maxL : Nat) (ret : Option FieldType) (hh : List (Nat × Nat × Nat × Nat)) (ws : List Cond) (rm : Room) (mc ms n : Nat) : Prop :=
  (rm.cells = mc ∧ rm.slots = ms ∧ rm.frames + 1 ≤ R.frames ∧ 8 + (maxL + 11) + rm.locals ≤ R.locals ∧ (∀ w ∈ ws, ∀ (a' : Array Value) (U : State), s.WarmedH U.vm → w.before a' U = true) ∧ Cond.codeWith y bytes maxL ret hh ∈ ws) ∧
  (Cond.codeWith y bytes maxL ret hh).before args s = true ∧ (Cond.initialized y.cls).before args s = true ∧ (y.cls ≠ "java/lang/invoke/MethodHandle" ∧ y.cls ≠ "java/lang/invoke/VarHandle") ∧
  (∀ sig, parseMethodDescriptor y.desc = some sig → n = sig.parameters.length) ∧ (Cond.methodLink own index y).before args s = true ∧ (Cond.static y).before args s = true
theorem vx_cwSW {own : String} {index maxL mc ms : Nat} {y : MethodName} {bytes : ByteArray} {ret : Option FieldType} {hh : List (Nat × Nat × Nat × Nat)} {Ts ws ws' : List Cond} {rm : Room} (n : Nat) (ht : ∀ w ∈ Ts, w.before args s = true) (hT : GoodIn Ts (va_wsS own index y ws)) (hw : ws = Cond.codeWith y bytes maxL ret hh :: ws') (hrc : rm.cells = mc) (hrs : rm.slots = ms)
    (hd : y.cls ≠ "java/lang/invoke/MethodHandle" ∧ y.cls ≠ "java/lang/invoke/VarHandle" ∧ (parseMethodDescriptor y.desc).map (fun d => d.parameters.length) = some n) (hR : rm.frames + 1 ≤ R.frames ∧ 8 + (maxL + 11) + rm.locals ≤ R.locals) :
    vx_CSW R s args own index y bytes maxL ret hh ws rm mc ms n := by
  have ok : ∀ w ∈ va_wsS own index y ws, w.before args s = true := fun w h => ht w (hT w h).1
  have hG : GoodIn Ts ws := fun w h => hT w (by unfold va_wsS; exact List.mem_append_right _ h)
  have hc : Cond.codeWith y bytes maxL ret hh ∈ ws := by rw [hw]; exact List.mem_cons_self
  refine ⟨⟨hrc, hrs, hR.1, hR.2, pay_in ht hG, hc⟩, ht _ (hG _ hc).1, ok _ (by simp [va_wsS]), ⟨hd.1, hd.2.1⟩, fun sig h => ?_, ok _ (by simp [va_wsS]), ok _ (by simp [va_wsS])⟩
  have h2 := hd.2.2
  rw [h] at h2
  exact (Option.some.inj h2).symm
theorem vx_callSW (X : Stand p l e R s m args below meth c T locs cells slots) (hexec : p.tables.exec = Jvm.exec) {own : String} {index : Nat} {y : MethodName} {bytes : ByteArray} {maxL : Nat} {ret : Option FieldType} {hh : List (Nat × Nat × Nat × Nat)}
    (hown : s.vm.findClass own = some m.cls) (hlink : (Cond.methodLink own index y).before args s = true) (hstat : (Cond.static y).before args s = true) (hinit : (Cond.initialized y.cls).before args s = true)
    (hcode : (Cond.codeWith y bytes maxL ret hh).before args s = true) (hy : y.cls ≠ "java/lang/invoke/MethodHandle" ∧ y.cls ≠ "java/lang/invoke/VarHandle")
    {W9 : Nat} {Pre : Pt → Array Value → Prop} {Post : Pt → Array Value → Option Value → Pt → Prop} (hK : Back l R p e below s args y 3 W9 Pre Post)
    {g : JFrame} (hg : g.method = m) (hsize : g.locals.size = c.maxLocals) {argsL rest : List Value} (hlen : ∀ sig, parseMethodDescriptor y.desc = some sig → argsL.length = sig.parameters.length)
    (hstack : g.stack = argsL.reverse ++ rest) (hW : 2 * g.monitorRoom + (rest.map fun v => v.category).sum ≤ W9) (hdg : decode c.code g.pc = .ok (.invokestatic index, 3))
    (hpre : ∀ vm₁, s.WarmedH vm₁ → Pre ⟨T.setVm vm₁, locs, cells, slots⟩ argsL.toArray) :
    ∃ (v : Option Value) (vm₁ : Vm) (B : Pt), s.WarmedH vm₁ ∧ Stand p l e R s m args below meth c B.U B.locs B.cells B.slots ∧ Post ⟨T.setVm vm₁, locs, cells, slots⟩ argsL.toArray v B ∧
      ∀ target, Steps p.tables e below (B.U.setTop { g with pc := g.pc + 3, stack := v.toList ++ rest }) target → Steps p.tables e below (T.setTop g) target := by
  obtain ⟨mk, methM, cM, hnamed, hmethM, -, -, -, -, -, -, hsigM⟩ := Cond.codeWith_spec hcode
  have hstatic : methM.isStatic = true := Cond.static_spec hnamed hmethM hstat
  obtain ⟨kP, hkP, -⟩ := className_of_methodNamed hnamed
  have hinitP : kP.init = .initialized := Cond.initialized_spec (findClass_of_methodNamed hnamed) hkP hinit
  obtain ⟨vm₁, X₁, hstep₁⟩ := X.invokestatic hexec hown hlink hnamed hmethM hstatic hkP hinitP hy (g := g) hg (argsL := argsL) (rest := rest) (hlen _ hsigM) hstack hdg
  obtain ⟨v, B, X', hpost, hsteps⟩ := hK m meth c ⟨T.setVm vm₁, locs, cells, slots⟩ { g with stack := rest } (.invokestatic index) mk argsL.toArray X₁ hg hsize hdg hW (X₁.named hnamed) (hpre vm₁ X₁.warmed)
  exact ⟨v, vm₁, B, X₁.warmed, X', hpost, fun target h => hstep₁ _ fun acts => by rw [doInvoke_state]; exact hsteps.trans h⟩
theorem vx_runSW {y : MethodName} {bytes cc : ByteArray} {maxL nL mc ms n index : Nat} {ret : Option FieldType} {hh : List (Nat × Nat × Nat × Nat)} {ws : List Cond} {rm : Room} {Pc : Array Value → State → Prop} {Qc : Array Value → State → Outcome → State → Prop} {free : Addr → Prop} {Ts : List Cond} {own : String} {As rest : List Value} {g : JFrame}
    (S : CallFix p m c cc nL s args Ts own) (hM : Met l y ws rm Pc Qc mc ms free) (cw : vx_CSW R s args own index y bytes maxL ret hh ws rm mc ms n) (hp : PreS s H Pc As)
    (hg : g.method = m) (hn : As.length = n) (hsize : g.locals.size = nL) (hstack : g.stack = As.reverse ++ rest) (hW : 2 * g.monitorRoom + (rest.map fun v => v.category).sum ≤ 8) (hdg : decode cc g.pc = .ok (.invokestatic index, 3)) (hf : cells + mc ≤ R.cells ∧ slots + ms ≤ R.slots) :
    va_Run p l e R s m args below meth c H locs cells slots mc ms g rest (Qc As.toArray) (free) := by
  obtain ⟨⟨hrc, hrs, hfr, hlo, hws, hcw⟩, hcode, hini, hy, hlen, hl, hstt⟩ := cw
  have hK : Back l R p e below s args y 3 8 (PreOf R mc ms Pc) (PostOf Qc mc ms free) := va_backW (hh := hh) (bytes := bytes) (maxL := maxL) (ret := ret) hM hp.1 hrc hrs hfr hlo hws hcw (fun a' U hW => word_at hW (Or.inl (by first | rfl | simp [Cond.onTables, Cond.keeps, Cond.steady])) hini)
  obtain ⟨hx, hb, hml, ho, -⟩ := S
  intro T hT X
  obtain ⟨v, vm₁, ⟨U', l2, c2, s2⟩, hW₁, X', ⟨g', mk, t, L, e1, e2, hq, h1, hL, h2, h3⟩, st⟩ := vx_callSW X hx (hh := hh) (bytes := bytes) (maxL := maxL) (ret := ret) ho hl hstt hini hcode hy hK hg (hsize.trans hml.symm) (argsL := As) (rest := rest) (fun sig h => hn.trans (hlen sig h)) hstack hW (by rw [hb]; exact hdg)
    (fun vm₁ hW₁ => ⟨hf.1, hf.2, hp.2 (T.setVm vm₁) hT hW₁⟩)
  dsimp only [Pt.U, Pt.locs, Pt.cells, Pt.slots] at X' e1 e2 h1 h2 h3 st
  subst h1; subst h2; subst h3
  exact ⟨v, (T.setVm vm₁).calling g' mk As.toArray, t, U', L, hT, X', hL, e1, e2, hq, st⟩
/-- not caught here, past rows that name other classes: it goes on to the caller -/
theorem vx_outP {p : Program} {l : Launch} {e : Env} {R : Room} {s : State} {m : MethodId} {args : Array Value} {below : List Frame} {meth : Method} {c : Code} {H : Heap} {locs : List Loc} {cells slots : Nat} {free : Addr → Prop} {ls : Array Slot} {rest : List Value} {Qc : Array Value → State → Outcome → State → Prop} {XC : String → State → State → Prop}
    {pc : Nat} {own E : String} {ce : Cell} {q : Addr} {mc ms : Nat} (hown : s.vm.findClass own = some m.cls) (hlocks : meth.locks = false)
    (hpass : ∀ z ∈ c.exceptionTable.toList, covers z pc = false ∨ (z.catchType ≠ 0 ∧ ∃ nm : String, (Cond.classLink own z.catchType nm).before args s = true ∧ va_Nc E nm s)) (hcell : H[q]? = some ce) (hv : ce.vm = .none) (hcl : s.vm.findClass E = some ce.cls)
    (hx : ∀ t : State, t.heap = H → s.vm.Alike t.vm → XC E s t) (hf : ∀ z ∈ locs, free z.base) (hc : cells ≤ mc) (hs : slots ≤ ms) :
    vx_W p l e R s m args below meth c H locs cells slots (vx_MQ below Qc XC args s mc ms free) (F0 m pc ls rest) q := by
  intro T hT X
  have hpl : e.platform.magicAccessors = ({} : Platform).magicAccessors := by rw [X.admits.platform]
  obtain ⟨vm', hW', X', st⟩ := X.outThrough hlocks q (g := F0 m pc ls rest) rfl rfl rfl (cell := ce) (by rw [hT]; exact hcell) (by rw [hv]; rfl)
    (by obtain ⟨k9, h9, -⟩ := Vm.findClass_spec hcl; exact ⟨k9, h9⟩) (fun z hz => by
      rcases hpass z hz with h | ⟨hz0, nm, hl1, hn1⟩
      · exact Or.inl h
      · obtain ⟨c6, hc6, hcl6⟩ := Cond.classLink_spec hown hl1 e.platform hpl
        obtain ⟨a8, b8, h1, h2, h3⟩ := hn1
        cases Option.some.inj (h1.symm.trans hcl)
        cases Option.some.inj (h2.symm.trans hc6)
        exact Or.inr ⟨hz0, _, hcl6, h3⟩)
  obtain ⟨g₀, hfr⟩ := X'.frames_eq
  have hcell9 : ((T.setVm vm').setFrames (.throwing q :: below)).heap[q]? = some ce := by
    show T.heap[q]? = some ce
    rw [hT]; exact hcell
  have hend : Ended ((T.setVm vm').setFrames (.throwing q :: below)) below (.threw q) := State.frames_setFrames _ (State.cur_lt_of_frames hfr)
  refine ⟨(T.setVm vm').setFrames (.throwing q :: below), ?_, .threw q, X'.here.running, hend, Or.inr ⟨q, rfl, E, ce, locs, hx _ hT (X'.ends _).1.alike, hcell9, hv, hcl, (X'.ends _).1, (X'.ends _).2.mono hc hs, hf⟩⟩
  rw [X.pushThrowing_eq]
  exact st
/-- a thing of a world lies in the heap -/
theorem vx_lt {D : va_G} {cl : List vw_C} {ws : va_W} {H1 : Heap} (h : va_P D cl ws H1) {k : Nat} {q : Nat × va_E} (hk : ws[k]? = some q) : q.1 < H1.size := (h k q hk).lt
end VXS
/-! ===== END ===== -/
/-! ===== BEGIN methods with a table of their own: called by a name, returning or throwing ===== -/
section VXH
/-! vx_backW, vx_callVX, vx_callSX, vx_callVW, vx_runVW, vx_runVX, vx_runSX, vx_ofWH follow the same proofs as their sisters above (Free/Laws.lean, Shelf42/LK1.lean); vx_outP calls Shelf42/NT130.lean (outThrough). -/
section
variable {l : Launch} {R : Room} {p : Program} {e : Env} {below : List Frame} {s : State} {sargs : Array Value} {y : MethodName} {len W9 : Nat}
theorem vx_backW {ws : List Cond} {rm : Room} {Pc : Array Value → State → Prop} {Qc : Array Value → State → Outcome → State → Prop} {XC : String → State → State → Prop} {mc ms : Nat} {free : Addr → Prop} {bytes : ByteArray} {maxL : Nat} {ret : Option FieldType} {hh : List (Nat × Nat × Nat × Nat)}
    (hM : vx_Met l y ws rm Pc Qc XC mc ms free) (hblind : FrameBlind Pc) (hrc : rm.cells = mc) (hrs : rm.slots = ms)
    (hframes : rm.frames + 1 ≤ R.frames) (hlocals : W9 + (maxL + 11) + rm.locals ≤ R.locals)
    (hws : ∀ w ∈ ws, ∀ a' U, s.WarmedH U.vm → w.before a' U = true) (hcode : Cond.codeWith y bytes maxL ret hh ∈ ws) (hinit : ∀ a' U, s.WarmedH U.vm → (Cond.initialized y.cls).before a' U = true) :
    vx_Back l R p e below s sargs y len W9 (PreOf R mc ms Pc) (PostOf Qc mc ms free) (vx_Post XC mc ms free) := by
  intro m meth c A g ig mk a X hg hsize hdg hW hn hp
  have h1 : (headSpec ws rm).pre.before a A.U = true := atoms_intro fun w hw => hws w hw _ _ X.warmed
  have h2 : (Cond.codeWith y bytes maxL ret hh).before a A.U = true := hws _ hcode _ _ X.warmed
  have h3 : (Cond.initialized y.cls).before a A.U = true := hinit _ _ X.warmed
  have h4 : A.cells + (headSpec ws rm).room.cells ≤ R.cells := by rw [show (headSpec ws rm).room.cells = mc from hrc]; exact hp.1
  have h5 : A.slots + (headSpec ws rm).room.slots ≤ R.slots := by rw [show (headSpec ws rm).room.slots = ms from hrs]; exact hp.2.1
  have hPc : Pc a (A.U.calling g mk a) := hblind _ _ _ _ hp.2.2
  obtain ⟨U, Ls, c0, s0⟩ := A
  dsimp only [Pt.U, Pt.locs, Pt.cells, Pt.slots] at h1 h2 h3 h4 h5 X hn hPc ⊢
  obtain ⟨m9, methY, cY, hn9, hmY, hcY, -, hlY, -⟩ := Cond.codeWith_spec h2
  cases Option.some.inj (hn9.symm.trans hn)
  obtain ⟨kY, hkY, -⟩ := className_of_methodNamed hn
  have hinitY : kY.init = .initialized := Cond.initialized_spec (findClass_of_methodNamed hn) hkY h3
  have h : At U g.method c below := by rw [hg]; exact X.here
  have hlocals9 : W9 + (maxL + 11) + (headSpec ws rm).room.locals ≤ R.locals := hlocals
  have happ : (headSpec ws rm).appliesLoose y e.platform (U.calling g mk a) = true :=
    Spec.appliesLoose_calling (g := g) h hdg hn hkY hinitY
      (X.room_calling (g := g) (R' := (headSpec ws rm).room) hsize hmY hcY hframes (by rw [hlY]; omega) h4 h5) h1
  obtain ⟨mid, hmid⟩ := h.above
  have hfr : (U.setTop g).frames = (.java g :: mid) ++ below := by rw [State.frames_setTop' g h.top, hmid]; rfl
  obtain ⟨o, s₂, hsteps, -, hend, hq⟩ := Steps.callFree hM p X.admits X.cas X.clock (acts := []) hfr happ hPc trivial
  have hq' : vx_Q Qc XC mc ms free a (U.calling g mk a) o s₂ := hq
  rw [State.frames_setTop' g h.top] at hend
  obtain ⟨g₀, hg0⟩ := Option.isSome_iff_exists.mp h.top
  obtain ⟨r, hr⟩ := State.topJava?_eq_some.mp hg0
  have hr' : (({ U with heap := s₂.heap, slotsUsed := s₂.slotsUsed } : State).setVm s₂.vm).frames = .java g₀ :: r := hr
  rcases hq' with ⟨hqc, L, hfe, hL⟩ | ⟨q, rfl, E, ce, L, hx, hce, hcv, hcl, hW₂, hsm, hL⟩
  · obtain ⟨⟨v, rfl⟩, hW₂, e2, q2, q3, q4, q5, q6⟩ := id hfe
    have e3 : s₂ = ({ (U.calling g mk a).setFrames s₂.frames with heap := s₂.heap, slotsUsed := s₂.slotsUsed } : State).setVm s₂.vm := by
      have : s₂ = ({ s₂ with vm := (U.calling g mk a).vm } : State).setVm s₂.vm := rfl
      rw [e2] at this
      exact this
    obtain ⟨c₂, i₂, len₂, hc₂, hd₂, hf₂⟩ := hend
    have hW' : U.WarmedH s₂.vm := hW₂
    have hcc : c₂ = c := by
      have h1 : s₂.code? g.method = U.code? g.method := by
        rw [State.code?_eq, State.code?_eq, hW'.alike.method?]
      exact Option.some.inj (hc₂.symm.trans (h1.trans h.code))
    subst hcc
    have hlen : len₂ = len := by rw [hdg] at hd₂; cases hd₂; rfl
    subst hlen
    have hs₂ : s₂ = (({ U with heap := s₂.heap, slotsUsed := s₂.slotsUsed } : State).setVm s₂.vm).setTop { g with pc := g.pc + len₂, stack := v.toList ++ g.stack } := by
      refine e3.trans ?_
      rw [hf₂, State.calling_eq h.top, State.setFrames_setFrames, State.setTop_of_frames _ hr', hr]
      rfl
    have hsame : U.sameButNew ({ U with heap := s₂.heap, slotsUsed := s₂.slotsUsed } : State) L mc ms := by
      refine ⟨?_, q2, q3, q4, q5, q6⟩
      obtain ⟨t, ht, -⟩ := State.frames_cons hr
      show ({ U with heap := s₂.heap, slotsUsed := s₂.slotsUsed } : State) = { U.setFrames U.frames with heap := s₂.heap, slotsUsed := s₂.slotsUsed }
      rw [State.setFrames_self ht]
    subst hg
    refine Or.inl ⟨v, ⟨(({ U with heap := s₂.heap, slotsUsed := s₂.slotsUsed } : State).setVm s₂.vm), Ls ++ L, c0 + mc, s0 + ms⟩,
      ⟨X.admits, X.cas, X.clock, X.frames, X.room, X.hears, X.method, X.code, (X.here.setHeapUsed s₂.heap s₂.slotsUsed).setVm hW'.alike, X.tail, State.WarmedH.trans X.warmed hW', X.limits, X.bytes, X.same.trans (hsame.setVm s.vm)⟩,
      ⟨g, mk, s₂, L, rfl, rfl, hqc, rfl, hL, rfl, rfl⟩, ?_⟩
    show Steps p.tables e below _ ((({ U with heap := s₂.heap, slotsUsed := s₂.slotsUsed } : State).setVm s₂.vm).setTop { g with pc := g.pc + len₂, stack := v.toList ++ g.stack })
    rw [← hs₂]
    exact hsteps
  · obtain ⟨e2, q2, q3, q4, q5, q6⟩ := id hsm
    have e3 : s₂ = ({ (U.calling g mk a).setFrames s₂.frames with heap := s₂.heap, slotsUsed := s₂.slotsUsed } : State).setVm s₂.vm := by
      have : s₂ = ({ s₂ with vm := (U.calling g mk a).vm } : State).setVm s₂.vm := rfl
      rw [e2] at this
      exact this
    have hf₂ : s₂.frames = .throwing q :: .java g :: U.frames.tail := hend
    have hW' : U.WarmedH s₂.vm := hW₂
    have hs₂ : s₂ = ((({ U with heap := s₂.heap, slotsUsed := s₂.slotsUsed } : State).setVm s₂.vm).setTop g).pushFrame (.throwing q) := by
      refine e3.trans ?_
      rw [hf₂, State.calling_eq h.top, State.setFrames_setFrames, State.pushFrame, State.frames_setTop _ hr', State.setTop_of_frames _ hr', State.setFrames_setFrames, hr]
      rfl
    have hsame : U.sameButNew ({ U with heap := s₂.heap, slotsUsed := s₂.slotsUsed } : State) L mc ms := by
      refine ⟨?_, q2, q3, q4, q5, q6⟩
      obtain ⟨t, ht, -⟩ := State.frames_cons hr
      show ({ U with heap := s₂.heap, slotsUsed := s₂.slotsUsed } : State) = { U.setFrames U.frames with heap := s₂.heap, slotsUsed := s₂.slotsUsed }
      rw [State.setFrames_self ht]
    subst hg
    refine Or.inr ⟨q, ⟨(({ U with heap := s₂.heap, slotsUsed := s₂.slotsUsed } : State).setVm s₂.vm), Ls ++ L, c0 + mc, s0 + ms⟩,
      ⟨X.admits, X.cas, X.clock, X.frames, X.room, X.hears, X.method, X.code, (X.here.setHeapUsed s₂.heap s₂.slotsUsed).setVm hW'.alike, X.tail, State.WarmedH.trans X.warmed hW', X.limits, X.bytes, X.same.trans (hsame.setVm s.vm)⟩,
      ⟨g, mk, s₂, L, E, ce, rfl, rfl, hx, hce, hcv, hcl, rfl, hL, rfl, rfl⟩, ?_⟩
    show Steps p.tables e below _ (((({ U with heap := s₂.heap, slotsUsed := s₂.slotsUsed } : State).setVm s₂.vm).setTop g).pushFrame (.throwing q))
    rw [← hs₂]
    exact hsteps
end
variable {p : Program} {l : Launch} {e : Env} {R : Room} {s : State} {m : MethodId} {args : Array Value} {below : List Frame} {meth : Method} {c : Code} {T : State} {H : Heap} {locs : List Loc} {cells slots : Nat}
theorem vx_callVX (X : Stand p l e R s m args below meth c T locs cells slots) (hexec : p.tables.exec = Jvm.exec) {own C : String} {index : Nat} {y : MethodName} {bytes : ByteArray} {maxL : Nat} {ret : Option FieldType} {hh : List (Nat × Nat × Nat × Nat)}
    (hown : s.vm.findClass own = some m.cls) (hlink : (Cond.methodLink own index y).before args s = true) (hinst : (Cond.instanceMethod y).before args s = true) (hsel : (Cond.selects C y y).before args s = true)
    (hcode : (Cond.codeWith y bytes maxL ret hh).before args s = true) (hy : y.cls ≠ "java/lang/invoke/MethodHandle" ∧ y.cls ≠ "java/lang/invoke/VarHandle")
    {W9 : Nat} {Pre : Pt → Array Value → Prop} {Post : Pt → Array Value → Option Value → Pt → Prop} {PostX : Pt → Array Value → Addr → Pt → Prop} (hK : vx_Back l R p e below s args y 3 W9 Pre Post PostX)
    {b : Addr} {cellB : Cell} (hcell : T.heap[b]? = some cellB) (hobj : cellB.vm.isStatics = false) (hcls : s.vm.findClass C = some cellB.cls)
    {g : JFrame} (hg : g.method = m) (hsize : g.locals.size = c.maxLocals) {argsL rest : List Value} (hlen : ∀ sig, parseMethodDescriptor y.desc = some sig → argsL.length = sig.parameters.length)
    (hstack : g.stack = argsL.reverse ++ .ref b :: rest) (hW : 2 * g.monitorRoom + (rest.map fun v => v.category).sum ≤ W9) (hdg : decode c.code g.pc = .ok (.invokevirtual index, 3))
    (hpre : ∀ vm₁, s.WarmedH vm₁ → Pre ⟨T.setVm vm₁, locs, cells, slots⟩ (Value.ref b :: argsL).toArray) :
    (∃ (v : Option Value) (vm₁ : Vm) (B : Pt), s.WarmedH vm₁ ∧ Stand p l e R s m args below meth c B.U B.locs B.cells B.slots ∧ Post ⟨T.setVm vm₁, locs, cells, slots⟩ (Value.ref b :: argsL).toArray v B ∧
      ∀ target, Steps p.tables e below (B.U.setTop { g with pc := g.pc + 3, stack := v.toList ++ rest }) target → Steps p.tables e below (T.setTop g) target) ∨
    (∃ (q : Addr) (vm₁ : Vm) (B : Pt), s.WarmedH vm₁ ∧ Stand p l e R s m args below meth c B.U B.locs B.cells B.slots ∧ PostX ⟨T.setVm vm₁, locs, cells, slots⟩ (Value.ref b :: argsL).toArray q B ∧
      Steps p.tables e below (T.setTop g) ((B.U.setTop { g with stack := rest }).pushFrame (.throwing q))) := by
  obtain ⟨mk, methM, hnamed, hmethM, hstM, habM⟩ := Cond.instanceMethod_spec hinst
  obtain ⟨m8, methM', cM, hn8, hmethM', -, -, -, -, -, -, hsigM⟩ := Cond.codeWith_spec hcode
  cases Option.some.inj (hn8.symm.trans hnamed)
  cases hmethM.symm.trans hmethM'
  obtain ⟨c2, r2, m2, q1, q2, q3, q4, kP, hkP, hkPi⟩ := Cond.selects_spec hsel
  cases hcls.symm.trans q1
  cases (State.methodFound?_of_named hnamed hy).symm.trans q2
  cases hnamed.symm.trans q3
  have hselP : selectMethod e.platform s.vm cellB.cls mk = .method mk := by rw [Launch.admits_selectMethod X.admits]; exact q4
  obtain ⟨vm₁, X₁, hstep₁⟩ := X.invokevirtual hexec hown hlink hnamed hmethM hstM hkP hkPi hy (a := b) (cell := cellB) hcell
    (fun z h => by rw [h] at hobj; cases hobj) hselP hmethM habM hkP hkPi (g := g) hg (argsL := argsL) (rest := rest) (hlen _ hsigM) hstack hdg
  rcases hK m meth c ⟨T.setVm vm₁, locs, cells, slots⟩ { g with stack := rest } (.invokevirtual index) mk (Value.ref b :: argsL).toArray X₁ hg hsize hdg hW (X₁.named hnamed) (hpre vm₁ X₁.warmed) with ⟨v, B, X', hpost, hsteps⟩ | ⟨q, B, X', hpost, hsteps⟩
  · exact Or.inl ⟨v, vm₁, B, X₁.warmed, X', hpost, fun target h => hstep₁ _ fun acts => by rw [doInvoke_state]; exact hsteps.trans h⟩
  · exact Or.inr ⟨q, vm₁, B, X₁.warmed, X', hpost, hstep₁ _ fun acts => by rw [doInvoke_state]; exact hsteps⟩
theorem vx_callSX (X : Stand p l e R s m args below meth c T locs cells slots) (hexec : p.tables.exec = Jvm.exec) {own : String} {index : Nat} {y : MethodName} {bytes : ByteArray} {maxL : Nat} {ret : Option FieldType} {hh : List (Nat × Nat × Nat × Nat)}
    (hown : s.vm.findClass own = some m.cls) (hlink : (Cond.methodLink own index y).before args s = true) (hstat : (Cond.static y).before args s = true) (hinit : (Cond.initialized y.cls).before args s = true)
    (hcode : (Cond.codeWith y bytes maxL ret hh).before args s = true) (hy : y.cls ≠ "java/lang/invoke/MethodHandle" ∧ y.cls ≠ "java/lang/invoke/VarHandle")
    {W9 : Nat} {Pre : Pt → Array Value → Prop} {Post : Pt → Array Value → Option Value → Pt → Prop} {PostX : Pt → Array Value → Addr → Pt → Prop} (hK : vx_Back l R p e below s args y 3 W9 Pre Post PostX)
    {g : JFrame} (hg : g.method = m) (hsize : g.locals.size = c.maxLocals) {argsL rest : List Value} (hlen : ∀ sig, parseMethodDescriptor y.desc = some sig → argsL.length = sig.parameters.length)
    (hstack : g.stack = argsL.reverse ++ rest) (hW : 2 * g.monitorRoom + (rest.map fun v => v.category).sum ≤ W9) (hdg : decode c.code g.pc = .ok (.invokestatic index, 3))
    (hpre : ∀ vm₁, s.WarmedH vm₁ → Pre ⟨T.setVm vm₁, locs, cells, slots⟩ argsL.toArray) :
    (∃ (v : Option Value) (vm₁ : Vm) (B : Pt), s.WarmedH vm₁ ∧ Stand p l e R s m args below meth c B.U B.locs B.cells B.slots ∧ Post ⟨T.setVm vm₁, locs, cells, slots⟩ argsL.toArray v B ∧
      ∀ target, Steps p.tables e below (B.U.setTop { g with pc := g.pc + 3, stack := v.toList ++ rest }) target → Steps p.tables e below (T.setTop g) target) ∨
    (∃ (q : Addr) (vm₁ : Vm) (B : Pt), s.WarmedH vm₁ ∧ Stand p l e R s m args below meth c B.U B.locs B.cells B.slots ∧ PostX ⟨T.setVm vm₁, locs, cells, slots⟩ argsL.toArray q B ∧
      Steps p.tables e below (T.setTop g) ((B.U.setTop { g with stack := rest }).pushFrame (.throwing q))) := by
  obtain ⟨mk, methM, cM, hnamed, hmethM, -, -, -, -, -, -, hsigM⟩ := Cond.codeWith_spec hcode
  have hstatic : methM.isStatic = true := Cond.static_spec hnamed hmethM hstat
  obtain ⟨kP, hkP, -⟩ := className_of_methodNamed hnamed
  have hinitP : kP.init = .initialized := Cond.initialized_spec (findClass_of_methodNamed hnamed) hkP hinit
  obtain ⟨vm₁, X₁, hstep₁⟩ := X.invokestatic hexec hown hlink hnamed hmethM hstatic hkP hinitP hy (g := g) hg (argsL := argsL) (rest := rest) (hlen _ hsigM) hstack hdg
  rcases hK m meth c ⟨T.setVm vm₁, locs, cells, slots⟩ { g with stack := rest } (.invokestatic index) mk argsL.toArray X₁ hg hsize hdg hW (X₁.named hnamed) (hpre vm₁ X₁.warmed) with ⟨v, B, X', hpost, hsteps⟩ | ⟨q, B, X', hpost, hsteps⟩
  · exact Or.inl ⟨v, vm₁, B, X₁.warmed, X', hpost, fun target h => hstep₁ _ fun acts => by rw [doInvoke_state]; exact hsteps.trans h⟩
  · exact Or.inr ⟨q, vm₁, B, X₁.warmed, X', hpost, hstep₁ _ fun acts => by rw [doInvoke_state]; exact hsteps⟩
theorem vx_callVW (X : Stand p l e R s m args below meth c T locs cells slots) (hexec : p.tables.exec = Jvm.exec) {own C : String} {index : Nat} {y : MethodName} {bytes : ByteArray} {maxL : Nat} {ret : Option FieldType} {hh : List (Nat × Nat × Nat × Nat)}
    (hown : s.vm.findClass own = some m.cls) (hlink : (Cond.methodLink own index y).before args s = true) (hinst : (Cond.instanceMethod y).before args s = true) (hsel : (Cond.selects C y y).before args s = true)
    (hcode : (Cond.codeWith y bytes maxL ret hh).before args s = true) (hy : y.cls ≠ "java/lang/invoke/MethodHandle" ∧ y.cls ≠ "java/lang/invoke/VarHandle")
    {W9 : Nat} {Pre : Pt → Array Value → Prop} {Post : Pt → Array Value → Option Value → Pt → Prop} (hK : Back l R p e below s args y 3 W9 Pre Post)
    {b : Addr} {cellB : Cell} (hcell : T.heap[b]? = some cellB) (hobj : cellB.vm.isStatics = false) (hcls : s.vm.findClass C = some cellB.cls)
    {g : JFrame} (hg : g.method = m) (hsize : g.locals.size = c.maxLocals) {argsL rest : List Value} (hlen : ∀ sig, parseMethodDescriptor y.desc = some sig → argsL.length = sig.parameters.length)
    (hstack : g.stack = argsL.reverse ++ .ref b :: rest) (hW : 2 * g.monitorRoom + (rest.map fun v => v.category).sum ≤ W9) (hdg : decode c.code g.pc = .ok (.invokevirtual index, 3))
    (hpre : ∀ vm₁, s.WarmedH vm₁ → Pre ⟨T.setVm vm₁, locs, cells, slots⟩ (Value.ref b :: argsL).toArray) :
    ∃ (v : Option Value) (vm₁ : Vm) (B : Pt), s.WarmedH vm₁ ∧ Stand p l e R s m args below meth c B.U B.locs B.cells B.slots ∧ Post ⟨T.setVm vm₁, locs, cells, slots⟩ (Value.ref b :: argsL).toArray v B ∧
      ∀ target, Steps p.tables e below (B.U.setTop { g with pc := g.pc + 3, stack := v.toList ++ rest }) target → Steps p.tables e below (T.setTop g) target := by
  obtain ⟨mk, methM, hnamed, hmethM, hstM, habM⟩ := Cond.instanceMethod_spec hinst
  obtain ⟨m8, methM', cM, hn8, hmethM', -, -, -, -, -, -, hsigM⟩ := Cond.codeWith_spec hcode
  cases Option.some.inj (hn8.symm.trans hnamed)
  cases hmethM.symm.trans hmethM'
  obtain ⟨c2, r2, m2, q1, q2, q3, q4, kP, hkP, hkPi⟩ := Cond.selects_spec hsel
  cases hcls.symm.trans q1
  cases (State.methodFound?_of_named hnamed hy).symm.trans q2
  cases hnamed.symm.trans q3
  have hselP : selectMethod e.platform s.vm cellB.cls mk = .method mk := by rw [Launch.admits_selectMethod X.admits]; exact q4
  obtain ⟨vm₁, X₁, hstep₁⟩ := X.invokevirtual hexec hown hlink hnamed hmethM hstM hkP hkPi hy (a := b) (cell := cellB) hcell
    (fun z h => by rw [h] at hobj; cases hobj) hselP hmethM habM hkP hkPi (g := g) hg (argsL := argsL) (rest := rest) (hlen _ hsigM) hstack hdg
  obtain ⟨v, B, X', hpost, hsteps⟩ := hK m meth c ⟨T.setVm vm₁, locs, cells, slots⟩ { g with stack := rest } (.invokevirtual index) mk (Value.ref b :: argsL).toArray X₁ hg hsize hdg hW (X₁.named hnamed) (hpre vm₁ X₁.warmed)
  exact ⟨v, vm₁, B, X₁.warmed, X', hpost, fun target h => hstep₁ _ fun acts => by rw [doInvoke_state]; exact hsteps.trans h⟩
abbrev vx_CVW (R : Room) (s : State) (args : Array Value) (own C : String) (index : Nat) (y : MethodName) (bytes : ByteArray) (maxL : Nat) (ret : Option FieldType) (hh : List (Nat × Nat × Nat × Nat)) (ws : List Cond) (rm : Room) (mc ms n : Nat) : Prop :=
  (rm.cells = mc ∧ rm.slots = ms ∧ rm.frames + 1 ≤ R.frames ∧ 8 + (maxL + 11) + rm.locals ≤ R.locals ∧ (∀ w ∈ ws, ∀ (a' : Array Value) (U : State), s.WarmedH U.vm → w.before a' U = true) ∧ Cond.codeWith y bytes maxL ret hh ∈ ws) ∧
  (Cond.codeWith y bytes maxL ret hh).before args s = true ∧ (Cond.initialized y.cls).before args s = true ∧ (y.cls ≠ "java/lang/invoke/MethodHandle" ∧ y.cls ≠ "java/lang/invoke/VarHandle") ∧
  (∀ sig, parseMethodDescriptor y.desc = some sig → n = sig.parameters.length) ∧ (Cond.methodLink own index y).before args s = true ∧ (Cond.instanceMethod y).before args s = true ∧ (Cond.selects C y y).before args s = true
theorem vx_cwVW {own C : String} {index maxL mc ms : Nat} {y : MethodName} {bytes : ByteArray} {ret : Option FieldType} {hh : List (Nat × Nat × Nat × Nat)} {Ts ws ws' : List Cond} {rm : Room} (n : Nat) (ht : ∀ w ∈ Ts, w.before args s = true) (hT : GoodIn Ts (wsV own index C y ws)) (hw : ws = Cond.codeWith y bytes maxL ret hh :: ws') (hrc : rm.cells = mc) (hrs : rm.slots = ms)
    (hd : y.cls = C ∧ y.cls ≠ "java/lang/invoke/MethodHandle" ∧ y.cls ≠ "java/lang/invoke/VarHandle" ∧ (parseMethodDescriptor y.desc).map (fun d => d.parameters.length) = some n) (hR : rm.frames + 1 ≤ R.frames ∧ 8 + (maxL + 11) + rm.locals ≤ R.locals) :
    vx_CVW R s args own C index y bytes maxL ret hh ws rm mc ms n := by
  obtain ⟨hC, hd⟩ := hd
  subst hC
  have ok : ∀ w ∈ wsV own index y.cls y ws, w.before args s = true := fun w h => ht w (hT w h).1
  have hG : GoodIn Ts ws := fun w h => hT w (by unfold wsV; exact List.mem_append_right _ h)
  have hc : Cond.codeWith y bytes maxL ret hh ∈ ws := by rw [hw]; exact List.mem_cons_self
  refine ⟨⟨hrc, hrs, hR.1, hR.2, pay_in ht hG, hc⟩, ht _ (hG _ hc).1, ok _ (by simp [wsV]), ⟨hd.1, hd.2.1⟩, fun sig h => ?_, ok _ (by simp [wsV]), ok _ (by simp [wsV]), ok _ (by simp [wsV])⟩
  have h2 := hd.2.2
  rw [h] at h2
  exact (Option.some.inj h2).symm
theorem vx_runVW {y : MethodName} {bytes cc : ByteArray} {maxL nL mc ms n index : Nat} {ret : Option FieldType} {hh : List (Nat × Nat × Nat × Nat)} {ws : List Cond} {rm : Room} {Pc : Array Value → State → Prop} {Qc : Array Value → State → Outcome → State → Prop} {free : Addr → Prop} {Ts : List Cond} {own C : String} {b : Addr} {As rest : List Value} {g : JFrame}
    (S : CallFix p m c cc nL s args Ts own) (hM : Met l y ws rm Pc Qc mc ms free) (cw : vx_CVW R s args own C index y bytes maxL ret hh ws rm mc ms n) (hp : PreV s H C b Pc As)
    (hg : g.method = m) (hn : As.length = n) (hsize : g.locals.size = nL) (hstack : g.stack = As.reverse ++ .ref b :: rest) (hW : 2 * g.monitorRoom + (rest.map fun v => v.category).sum ≤ 8) (hdg : decode cc g.pc = .ok (.invokevirtual index, 3)) (hf : cells + mc ≤ R.cells ∧ slots + ms ≤ R.slots) :
    va_Run p l e R s m args below meth c H locs cells slots mc ms g rest (Qc (Value.ref b :: As).toArray) free := by
  obtain ⟨⟨hrc, hrs, hfr, hlo, hws, hcw⟩, hcode, hini, hy, hlen, hl, hin, hse⟩ := cw
  have hK : Back l R p e below s args y 3 8 (PreOf R mc ms Pc) (PostOf Qc mc ms free) := va_backW (hh := hh) (bytes := bytes) (maxL := maxL) (ret := ret) hM hp.1 hrc hrs hfr hlo hws hcw (fun a' U hW => word_at hW (Or.inl (by first | rfl | simp [Cond.onTables, Cond.keeps, Cond.steady])) hini)
  obtain ⟨hx, hb, hml, ho, -⟩ := S
  obtain ⟨-, ⟨cellB, hcB, hoB, hclB⟩, hPc⟩ := hp
  intro T hT X
  obtain ⟨v, vm₁, ⟨U', l2, c2, s2⟩, hW₁, X', ⟨g', mk, t, L, e1, e2, hq, h1, hL, h2, h3⟩, st⟩ := vx_callVW X hx (C := C) (hh := hh) (bytes := bytes) (maxL := maxL) (ret := ret) ho hl hin hse hcode hy hK (by rw [hT]; exact hcB) hoB hclB hg (hsize.trans hml.symm) (argsL := As) (rest := rest) (fun sig h => hn.trans (hlen sig h)) hstack hW (by rw [hb]; exact hdg)
    (fun vm₁ hW₁ => ⟨hf.1, hf.2, hPc (T.setVm vm₁) hT hW₁⟩)
  dsimp only [Pt.U, Pt.locs, Pt.cells, Pt.slots] at X' e1 e2 h1 h2 h3 st
  subst h1; subst h2; subst h3
  exact ⟨v, (T.setVm vm₁).calling g' mk (Value.ref b :: As).toArray, t, U', L, hT, X', hL, e1, e2, hq, st⟩
section
variable {y : MethodName} {bytes cc : ByteArray} {maxL nL mc ms n index : Nat} {ret : Option FieldType} {ws : List Cond} {rm : Room} {Pc : Array Value → State → Prop} {Qc : Array Value → State → Outcome → State → Prop} {XC : String → State → State → Prop} {free : Addr → Prop} {Ts : List Cond} {own C : String} {b : Addr} {As rest : List Value} {g : JFrame}
theorem vx_runVX {hh : List (Nat × Nat × Nat × Nat)} (S : CallFix p m c cc nL s args Ts own) (hM : vx_Met l y ws rm Pc Qc XC mc ms free) (cw : vx_CVW R s args own C index y bytes maxL ret hh ws rm mc ms n) (hp : PreV s H C b Pc As)
    (hg : g.method = m) (hn : As.length = n) (hsize : g.locals.size = nL) (hstack : g.stack = As.reverse ++ .ref b :: rest) (hW : 2 * g.monitorRoom + (rest.map fun v => v.category).sum ≤ 8) (hdg : decode cc g.pc = .ok (.invokevirtual index, 3)) (hf : cells + mc ≤ R.cells ∧ slots + ms ≤ R.slots) :
    vx_Run p l e R s m args below meth c H locs cells slots mc ms g rest (Qc (Value.ref b :: As).toArray) XC free := by
  obtain ⟨⟨hrc, hrs, hfr, hlo, hws, hcw⟩, hcode, hini, hy, hlen, hl, hin, hse⟩ := cw
  have hK : vx_Back l R p e below s args y 3 8 (PreOf R mc ms Pc) (PostOf Qc mc ms free) (vx_Post XC mc ms free) := vx_backW (hh := hh) (bytes := bytes) (maxL := maxL) (ret := ret) hM hp.1 hrc hrs hfr hlo hws hcw (fun a' U hW => word_at hW (Or.inl (by first | rfl | simp [Cond.onTables, Cond.keeps, Cond.steady])) hini)
  obtain ⟨hx, hb, hml, ho, -⟩ := S
  obtain ⟨-, ⟨cellB, hcB, hoB, hclB⟩, hPc⟩ := hp
  intro T hT X
  rcases vx_callVX X hx (C := C) (hh := hh) (bytes := bytes) (maxL := maxL) (ret := ret) ho hl hin hse hcode hy hK (by rw [hT]; exact hcB) hoB hclB hg (hsize.trans hml.symm) (argsL := As) (rest := rest) (fun sig h => hn.trans (hlen sig h)) hstack hW (by rw [hb]; exact hdg)
    (fun vm₁ hW₁ => ⟨hf.1, hf.2, hPc (T.setVm vm₁) hT hW₁⟩) with ⟨v, vm₁, ⟨U', l2, c2, s2⟩, hW₁, X', ⟨g', mk, t, L, e1, e2, hq, h1, hL, h2, h3⟩, st⟩ | ⟨q, vm₁, ⟨U', l2, c2, s2⟩, hW₁, X', ⟨g', mk, t, L, E, ce, e1, e2, hq, hce, hcv, hcl, h1, hL, h2, h3⟩, st⟩
  · dsimp only [Pt.U, Pt.locs, Pt.cells, Pt.slots] at X' e1 e2 h1 h2 h3 st
    subst h1; subst h2; subst h3
    exact Or.inl ⟨v, (T.setVm vm₁).calling g' mk (Value.ref b :: As).toArray, t, U', L, hT, X', hL, e1, e2, hq, st⟩
  · dsimp only [Pt.U, Pt.locs, Pt.cells, Pt.slots] at X' e1 e2 h1 h2 h3 st hcl
    subst h1; subst h2; subst h3
    exact Or.inr ⟨q, (T.setVm vm₁).calling g' mk (Value.ref b :: As).toArray, t, U', L, E, ce, hT, X', hL, e1, e2, hq, hce, hcv, vx_cls hW₁ hcl, st⟩
theorem vx_runSX {hh : List (Nat × Nat × Nat × Nat)} (S : CallFix p m c cc nL s args Ts own) (hM : vx_Met l y ws rm Pc Qc XC mc ms free) (cw : vx_CSW R s args own index y bytes maxL ret hh ws rm mc ms n) (hp : PreS s H Pc As)
    (hg : g.method = m) (hn : As.length = n) (hsize : g.locals.size = nL) (hstack : g.stack = As.reverse ++ rest) (hW : 2 * g.monitorRoom + (rest.map fun v => v.category).sum ≤ 8) (hdg : decode cc g.pc = .ok (.invokestatic index, 3)) (hf : cells + mc ≤ R.cells ∧ slots + ms ≤ R.slots) :
    vx_Run p l e R s m args below meth c H locs cells slots mc ms g rest (Qc As.toArray) XC free := by
  obtain ⟨⟨hrc, hrs, hfr, hlo, hws, hcw⟩, hcode, hini, hy, hlen, hl, hstt⟩ := cw
  have hK : vx_Back l R p e below s args y 3 8 (PreOf R mc ms Pc) (PostOf Qc mc ms free) (vx_Post XC mc ms free) := vx_backW (hh := hh) (bytes := bytes) (maxL := maxL) (ret := ret) hM hp.1 hrc hrs hfr hlo hws hcw (fun a' U hW => word_at hW (Or.inl (by first | rfl | simp [Cond.onTables, Cond.keeps, Cond.steady])) hini)
  obtain ⟨hx, hb, hml, ho, -⟩ := S
  intro T hT X
  rcases vx_callSX X hx (hh := hh) (bytes := bytes) (maxL := maxL) (ret := ret) ho hl hstt hini hcode hy hK hg (hsize.trans hml.symm) (argsL := As) (rest := rest) (fun sig h => hn.trans (hlen sig h)) hstack hW (by rw [hb]; exact hdg)
    (fun vm₁ hW₁ => ⟨hf.1, hf.2, hp.2 (T.setVm vm₁) hT hW₁⟩) with ⟨v, vm₁, ⟨U', l2, c2, s2⟩, hW₁, X', ⟨g', mk, t, L, e1, e2, hq, h1, hL, h2, h3⟩, st⟩ | ⟨q, vm₁, ⟨U', l2, c2, s2⟩, hW₁, X', ⟨g', mk, t, L, E, ce, e1, e2, hq, hce, hcv, hcl, h1, hL, h2, h3⟩, st⟩
  · dsimp only [Pt.U, Pt.locs, Pt.cells, Pt.slots] at X' e1 e2 h1 h2 h3 st
    subst h1; subst h2; subst h3
    exact Or.inl ⟨v, (T.setVm vm₁).calling g' mk As.toArray, t, U', L, hT, X', hL, e1, e2, hq, st⟩
  · dsimp only [Pt.U, Pt.locs, Pt.cells, Pt.slots] at X' e1 e2 h1 h2 h3 st hcl
    subst h1; subst h2; subst h3
    exact Or.inr ⟨q, (T.setVm vm₁).calling g' mk As.toArray, t, U', L, E, ce, hT, X', hL, e1, e2, hq, hce, hcv, vx_cls hW₁ hcl, st⟩
end
end VXH
theorem vx_ofWH {l : Launch} {y : MethodName} {ws ws' : List Cond} {rm : Room} {Pc : Array Value → State → Prop} {Qc : Array Value → State → Outcome → State → Prop} {XC : String → State → State → Prop} {mc ms : Nat} {free : Addr → Prop} {cc : ByteArray} {maxL : Nat} {ret : Option FieldType} {hh : List (Nat × Nat × Nat × Nat)}
    (hy : plainName y.cls = true) (hw : ws = Cond.codeWith y cc maxL ret hh :: ws')
    (body : ∀ p e s m args below meth c s₁, BodyLoose p l y (headSpec ws rm) cc maxL ret e s m args below meth c s₁ → c.maxLocals = maxL → Pc args s →
      W p l e (headSpec ws rm).room s m args below meth c s.heap [] 0 0 (vx_MQ below Qc XC args s mc ms free) (entryFrame m args maxL)) : vx_Met l y ws rm Pc Qc XC mc ms free := by
  refine MetFree.of_bodyS (code := cc) (maxLocals := maxL) (ret := ret) hy ?_ ?_
  · intro args s m h hn
    obtain ⟨m9, meth, c, hn9, h1, h2, h3, h4, -, h5, h6, -⟩ := Cond.codeWith_spec (atoms_spec (ws := ws) h _ (by rw [hw]; exact List.mem_cons_self))
    cases hn.symm.trans hn9
    exact ⟨meth, c, h1, h2, h3, h4, h5, h6⟩
  · intro p e s m args below meth c s₁ B hml hP _
    have hh0 : s₁.heap = s.heap := by rw [B.state]; rfl
    obtain ⟨t, a1, o, b1, b2, b3⟩ := body p e s m args below meth c s₁ B hml hP s₁ hh0 (Stand.of_body B)
    exact ⟨t, o, a1, b1, b2, b3⟩
/-! ===== END ===== -/
end
section
/-! the words of the tables, by their places (a row each) -/
theorem tw_of {w : Cond} (i : Nat) (h : tables_1[i]? = some w) : w ∈ lw_tbl := List.mem_append_right _ (List.mem_of_getElem? h)
theorem tw_0 : (Jvm.Cond.initialized "PersonSeedsLaw") ∈ lw_tbl := tw_of 0 (by decide +kernel)
theorem tw_1 : (Jvm.Cond.initialized "PersonSeeds") ∈ lw_tbl := tw_of 1 (by decide +kernel)
theorem tw_2 : (Jvm.Cond.initialized "PersonSeeds$Rooms") ∈ lw_tbl := tw_of 2 (by decide +kernel)
theorem tw_3 : (Jvm.Cond.initialized "PersonSeeds$Doors") ∈ lw_tbl := tw_of 3 (by decide +kernel)
theorem tw_4 : (Jvm.Cond.initialized "java/util/Arrays") ∈ lw_tbl := tw_of 4 (by decide +kernel)
theorem tw_5 : (Jvm.Cond.initialized "PersonSeeds$Trails") ∈ lw_tbl := tw_of 5 (by decide +kernel)
theorem tw_6 : (Jvm.Cond.initialized "PersonSeeds$Persons") ∈ lw_tbl := tw_of 6 (by decide +kernel)
theorem tw_7 : (Jvm.Cond.initialized "PersonSeedsModel") ∈ lw_tbl := tw_of 7 (by decide +kernel)
theorem tw_8 : (Jvm.Cond.initialized "java/lang/Throwable") ∈ lw_tbl := tw_of 8 (by decide +kernel)
theorem tw_9 : (Jvm.Cond.initialized "java/lang/Exception") ∈ lw_tbl := tw_of 9 (by decide +kernel)
theorem tw_10 : (Jvm.Cond.initialized "java/lang/RuntimeException") ∈ lw_tbl := tw_of 10 (by decide +kernel)
theorem tw_11 : (Jvm.Cond.initialized "java/lang/IllegalArgumentException") ∈ lw_tbl := tw_of 11 (by decide +kernel)
theorem tw_12 : (Jvm.Cond.initialized "java/lang/IllegalStateException") ∈ lw_tbl := tw_of 12 (by decide +kernel)
theorem tw_13 : (Jvm.Cond.initialized "java/lang/Math") ∈ lw_tbl := tw_of 13 (by decide +kernel)
theorem tw_14 : (Jvm.Cond.classLink "PersonSeedsLaw" (8 : Nat) "PersonSeeds") ∈ lw_tbl := tw_of 14 (by decide +kernel)
theorem tw_15 : (Jvm.Cond.instantiable "PersonSeeds" (7 : Nat)) ∈ lw_tbl := tw_of 15 (by decide +kernel)
theorem tw_16 : (Jvm.Cond.methodLink "PersonSeedsLaw" (65 : Nat) ({ cls := "PersonSeeds", name := "<init>", desc := "(J)V" } : Jvm.MethodName)) ∈ lw_tbl := tw_of 16 (by decide +kernel)
theorem tw_17 : (Jvm.Cond.instanceMethod ({ cls := "PersonSeeds", name := "<init>", desc := "(J)V" } : Jvm.MethodName)) ∈ lw_tbl := tw_of 17 (by decide +kernel)
theorem tw_18 : (Jvm.Cond.code ({ cls := "PersonSeeds", name := "<init>", desc := "(J)V" } : Jvm.MethodName) prog_1_method_1_code (3 : Nat) (Option.none : Option Jvm.ClassFile.FieldType)) ∈ lw_tbl := tw_of 18 (by decide +kernel)
theorem tw_19 : (Jvm.Cond.methodLink "PersonSeeds" (1 : Nat) ({ cls := "java/lang/Object", name := "<init>", desc := "()V" } : Jvm.MethodName)) ∈ lw_tbl := tw_of 19 (by decide +kernel)
theorem tw_20 : (Jvm.Cond.instanceMethod ({ cls := "java/lang/Object", name := "<init>", desc := "()V" } : Jvm.MethodName)) ∈ lw_tbl := tw_of 20 (by decide +kernel)
theorem tw_21 : (Jvm.Cond.code ({ cls := "java/lang/Object", name := "<init>", desc := "()V" } : Jvm.MethodName) object_method_1_code (1 : Nat) (Option.none : Option Jvm.ClassFile.FieldType)) ∈ lw_tbl := tw_of 21 (by decide +kernel)
theorem tw_22 : (Jvm.Cond.classLink "PersonSeeds" (7 : Nat) "PersonSeeds$Rooms") ∈ lw_tbl := tw_of 22 (by decide +kernel)
theorem tw_23 : (Jvm.Cond.instantiable "PersonSeeds$Rooms" (5 : Nat)) ∈ lw_tbl := tw_of 23 (by decide +kernel)
theorem tw_24 : (Jvm.Cond.methodLinkNest "PersonSeeds" (9 : Nat) ({ cls := "PersonSeeds$Rooms", name := "<init>", desc := "()V" } : Jvm.MethodName) "PersonSeeds") ∈ lw_tbl := tw_of 24 (by decide +kernel)
theorem tw_25 : (Jvm.Cond.instanceMethod ({ cls := "PersonSeeds$Rooms", name := "<init>", desc := "()V" } : Jvm.MethodName)) ∈ lw_tbl := tw_of 25 (by decide +kernel)
theorem tw_26 : (Jvm.Cond.code ({ cls := "PersonSeeds$Rooms", name := "<init>", desc := "()V" } : Jvm.MethodName) prog_4_method_1_code (1 : Nat) (Option.none : Option Jvm.ClassFile.FieldType)) ∈ lw_tbl := tw_of 26 (by decide +kernel)
theorem tw_27 : (Jvm.Cond.methodLink "PersonSeeds$Rooms" (3 : Nat) ({ cls := "java/lang/Object", name := "<init>", desc := "()V" } : Jvm.MethodName)) ∈ lw_tbl := tw_of 27 (by decide +kernel)
theorem tw_28 : (Jvm.Cond.fieldLink "PersonSeeds$Rooms" (24 : Nat) "PersonSeeds$Rooms" "count" "I") ∈ lw_tbl := tw_of 28 (by decide +kernel)
theorem tw_29 : (Jvm.Cond.fieldLinkNest "PersonSeeds" (47 : Nat) "PersonSeeds$Rooms" "count" "I" "PersonSeeds") ∈ lw_tbl := tw_of 29 (by decide +kernel)
theorem tw_30 : (Jvm.Cond.fieldLink "PersonSeeds$Rooms" (9 : Nat) "PersonSeeds$Rooms" "cells" "[I") ∈ lw_tbl := tw_of 30 (by decide +kernel)
theorem tw_31 : (Jvm.Cond.fieldLink "PersonSeeds$Rooms" (15 : Nat) "PersonSeeds$Rooms" "inside" "[I") ∈ lw_tbl := tw_of 31 (by decide +kernel)
theorem tw_32 : (Jvm.Cond.fieldLinkNest "PersonSeeds" (124 : Nat) "PersonSeeds$Rooms" "inside" "[I" "PersonSeeds") ∈ lw_tbl := tw_of 32 (by decide +kernel)
theorem tw_33 : (Jvm.Cond.fieldLink "PersonSeeds$Rooms" (18 : Nat) "PersonSeeds$Rooms" "most" "[I") ∈ lw_tbl := tw_of 33 (by decide +kernel)
theorem tw_34 : (Jvm.Cond.fieldLinkNest "PersonSeeds" (127 : Nat) "PersonSeeds$Rooms" "most" "[I" "PersonSeeds") ∈ lw_tbl := tw_of 34 (by decide +kernel)
theorem tw_35 : (Jvm.Cond.fieldLink "PersonSeeds$Rooms" (21 : Nat) "PersonSeeds$Rooms" "fullEnds" "[I") ∈ lw_tbl := tw_of 35 (by decide +kernel)
theorem tw_36 : (Jvm.Cond.fieldLinkNest "PersonSeeds" (130 : Nat) "PersonSeeds$Rooms" "fullEnds" "[I" "PersonSeeds") ∈ lw_tbl := tw_of 36 (by decide +kernel)
theorem tw_37 : (Jvm.Cond.lays "PersonSeeds$Rooms" "PersonSeeds$Rooms" "count" "I") ∈ lw_tbl := tw_of 37 (by decide +kernel)
theorem tw_38 : (Jvm.Cond.soleField "PersonSeeds$Rooms" "count") ∈ lw_tbl := tw_of 38 (by decide +kernel)
theorem tw_39 : (Jvm.Cond.laysFinal "PersonSeeds$Rooms" "PersonSeeds$Rooms" "cells" "[I") ∈ lw_tbl := tw_of 39 (by decide +kernel)
theorem tw_40 : (Jvm.Cond.soleField "PersonSeeds$Rooms" "cells") ∈ lw_tbl := tw_of 40 (by decide +kernel)
theorem tw_41 : (Jvm.Cond.laysFinal "PersonSeeds$Rooms" "PersonSeeds$Rooms" "inside" "[I") ∈ lw_tbl := tw_of 41 (by decide +kernel)
theorem tw_42 : (Jvm.Cond.soleField "PersonSeeds$Rooms" "inside") ∈ lw_tbl := tw_of 42 (by decide +kernel)
theorem tw_43 : (Jvm.Cond.laysFinal "PersonSeeds$Rooms" "PersonSeeds$Rooms" "most" "[I") ∈ lw_tbl := tw_of 43 (by decide +kernel)
theorem tw_44 : (Jvm.Cond.soleField "PersonSeeds$Rooms" "most") ∈ lw_tbl := tw_of 44 (by decide +kernel)
theorem tw_45 : (Jvm.Cond.laysFinal "PersonSeeds$Rooms" "PersonSeeds$Rooms" "fullEnds" "[I") ∈ lw_tbl := tw_of 45 (by decide +kernel)
theorem tw_46 : (Jvm.Cond.soleField "PersonSeeds$Rooms" "fullEnds") ∈ lw_tbl := tw_of 46 (by decide +kernel)
theorem tw_47 : (Jvm.Cond.superclass "PersonSeeds$Rooms" "java/lang/Object") ∈ lw_tbl := tw_of 47 (by decide +kernel)
theorem tw_48 : (Jvm.Cond.arrayClass Jvm.ClassFile.FieldType.int) ∈ lw_tbl := tw_of 48 (by decide +kernel)
theorem tw_49 : (Jvm.Cond.classLink "PersonSeeds" (16 : Nat) "PersonSeeds$Doors") ∈ lw_tbl := tw_of 49 (by decide +kernel)
theorem tw_50 : (Jvm.Cond.instantiable "PersonSeeds$Doors" (8 : Nat)) ∈ lw_tbl := tw_of 50 (by decide +kernel)
theorem tw_51 : (Jvm.Cond.methodLinkNest "PersonSeeds" (18 : Nat) ({ cls := "PersonSeeds$Doors", name := "<init>", desc := "()V" } : Jvm.MethodName) "PersonSeeds") ∈ lw_tbl := tw_of 51 (by decide +kernel)
theorem tw_52 : (Jvm.Cond.instanceMethod ({ cls := "PersonSeeds$Doors", name := "<init>", desc := "()V" } : Jvm.MethodName)) ∈ lw_tbl := tw_of 52 (by decide +kernel)
theorem tw_53 : (Jvm.Cond.code ({ cls := "PersonSeeds$Doors", name := "<init>", desc := "()V" } : Jvm.MethodName) prog_2_method_1_code (2 : Nat) (Option.none : Option Jvm.ClassFile.FieldType)) ∈ lw_tbl := tw_of 53 (by decide +kernel)
theorem tw_54 : (Jvm.Cond.methodLink "PersonSeeds$Doors" (3 : Nat) ({ cls := "java/lang/Object", name := "<init>", desc := "()V" } : Jvm.MethodName)) ∈ lw_tbl := tw_of 54 (by decide +kernel)
theorem tw_55 : (Jvm.Cond.methodLink "PersonSeeds$Doors" (33 : Nat) ({ cls := "java/util/Arrays", name := "fill", desc := "([II)V" } : Jvm.MethodName)) ∈ lw_tbl := tw_of 55 (by decide +kernel)
theorem tw_56 : (Jvm.Cond.static ({ cls := "java/util/Arrays", name := "fill", desc := "([II)V" } : Jvm.MethodName)) ∈ lw_tbl := tw_of 56 (by decide +kernel)
theorem tw_57 : (Jvm.Cond.code ({ cls := "java/util/Arrays", name := "fill", desc := "([II)V" } : Jvm.MethodName) prog_15_method_103_code (4 : Nat) (Option.none : Option Jvm.ClassFile.FieldType)) ∈ lw_tbl := tw_of 57 (by decide +kernel)
theorem tw_58 : (Jvm.Cond.fieldLink "PersonSeeds$Doors" (39 : Nat) "PersonSeeds$Doors" "count" "I") ∈ lw_tbl := tw_of 58 (by decide +kernel)
theorem tw_59 : (Jvm.Cond.fieldLinkNest "PersonSeeds" (69 : Nat) "PersonSeeds$Doors" "count" "I" "PersonSeeds") ∈ lw_tbl := tw_of 59 (by decide +kernel)
theorem tw_60 : (Jvm.Cond.fieldLink "PersonSeeds$Doors" (9 : Nat) "PersonSeeds$Doors" "near" "[I") ∈ lw_tbl := tw_of 60 (by decide +kernel)
theorem tw_61 : (Jvm.Cond.fieldLink "PersonSeeds$Doors" (15 : Nat) "PersonSeeds$Doors" "far" "[I") ∈ lw_tbl := tw_of 61 (by decide +kernel)
theorem tw_62 : (Jvm.Cond.fieldLink "PersonSeeds$Doors" (18 : Nat) "PersonSeeds$Doors" "width" "[I") ∈ lw_tbl := tw_of 62 (by decide +kernel)
theorem tw_63 : (Jvm.Cond.fieldLink "PersonSeeds$Doors" (21 : Nat) "PersonSeeds$Doors" "wentOn" "[I") ∈ lw_tbl := tw_of 63 (by decide +kernel)
theorem tw_64 : (Jvm.Cond.fieldLinkNest "PersonSeeds" (133 : Nat) "PersonSeeds$Doors" "wentOn" "[I" "PersonSeeds") ∈ lw_tbl := tw_of 64 (by decide +kernel)
theorem tw_65 : (Jvm.Cond.fieldLink "PersonSeeds$Doors" (24 : Nat) "PersonSeeds$Doors" "wentBack" "[I") ∈ lw_tbl := tw_of 65 (by decide +kernel)
theorem tw_66 : (Jvm.Cond.fieldLinkNest "PersonSeeds" (136 : Nat) "PersonSeeds$Doors" "wentBack" "[I" "PersonSeeds") ∈ lw_tbl := tw_of 66 (by decide +kernel)
theorem tw_67 : (Jvm.Cond.fieldLink "PersonSeeds$Doors" (27 : Nat) "PersonSeeds$Doors" "wentNow" "[I") ∈ lw_tbl := tw_of 67 (by decide +kernel)
theorem tw_68 : (Jvm.Cond.fieldLink "PersonSeeds$Doors" (30 : Nat) "PersonSeeds$Doors" "steps" "[I") ∈ lw_tbl := tw_of 68 (by decide +kernel)
theorem tw_69 : (Jvm.Cond.lays "PersonSeeds$Doors" "PersonSeeds$Doors" "count" "I") ∈ lw_tbl := tw_of 69 (by decide +kernel)
theorem tw_70 : (Jvm.Cond.soleField "PersonSeeds$Doors" "count") ∈ lw_tbl := tw_of 70 (by decide +kernel)
theorem tw_71 : (Jvm.Cond.laysFinal "PersonSeeds$Doors" "PersonSeeds$Doors" "near" "[I") ∈ lw_tbl := tw_of 71 (by decide +kernel)
theorem tw_72 : (Jvm.Cond.soleField "PersonSeeds$Doors" "near") ∈ lw_tbl := tw_of 72 (by decide +kernel)
theorem tw_73 : (Jvm.Cond.laysFinal "PersonSeeds$Doors" "PersonSeeds$Doors" "far" "[I") ∈ lw_tbl := tw_of 73 (by decide +kernel)
theorem tw_74 : (Jvm.Cond.soleField "PersonSeeds$Doors" "far") ∈ lw_tbl := tw_of 74 (by decide +kernel)
theorem tw_75 : (Jvm.Cond.laysFinal "PersonSeeds$Doors" "PersonSeeds$Doors" "width" "[I") ∈ lw_tbl := tw_of 75 (by decide +kernel)
theorem tw_76 : (Jvm.Cond.soleField "PersonSeeds$Doors" "width") ∈ lw_tbl := tw_of 76 (by decide +kernel)
theorem tw_77 : (Jvm.Cond.laysFinal "PersonSeeds$Doors" "PersonSeeds$Doors" "wentOn" "[I") ∈ lw_tbl := tw_of 77 (by decide +kernel)
theorem tw_78 : (Jvm.Cond.soleField "PersonSeeds$Doors" "wentOn") ∈ lw_tbl := tw_of 78 (by decide +kernel)
theorem tw_79 : (Jvm.Cond.laysFinal "PersonSeeds$Doors" "PersonSeeds$Doors" "wentBack" "[I") ∈ lw_tbl := tw_of 79 (by decide +kernel)
theorem tw_80 : (Jvm.Cond.soleField "PersonSeeds$Doors" "wentBack") ∈ lw_tbl := tw_of 80 (by decide +kernel)
theorem tw_81 : (Jvm.Cond.laysFinal "PersonSeeds$Doors" "PersonSeeds$Doors" "wentNow" "[I") ∈ lw_tbl := tw_of 81 (by decide +kernel)
theorem tw_82 : (Jvm.Cond.soleField "PersonSeeds$Doors" "wentNow") ∈ lw_tbl := tw_of 82 (by decide +kernel)
theorem tw_83 : (Jvm.Cond.laysFinal "PersonSeeds$Doors" "PersonSeeds$Doors" "steps" "[I") ∈ lw_tbl := tw_of 83 (by decide +kernel)
theorem tw_84 : (Jvm.Cond.soleField "PersonSeeds$Doors" "steps") ∈ lw_tbl := tw_of 84 (by decide +kernel)
theorem tw_85 : (Jvm.Cond.superclass "PersonSeeds$Doors" "java/lang/Object") ∈ lw_tbl := tw_of 85 (by decide +kernel)
theorem tw_86 : (Jvm.Cond.classLink "PersonSeeds" (23 : Nat) "PersonSeeds$Trails") ∈ lw_tbl := tw_of 86 (by decide +kernel)
theorem tw_87 : (Jvm.Cond.instantiable "PersonSeeds$Trails" (3 : Nat)) ∈ lw_tbl := tw_of 87 (by decide +kernel)
theorem tw_88 : (Jvm.Cond.methodLinkNest "PersonSeeds" (25 : Nat) ({ cls := "PersonSeeds$Trails", name := "<init>", desc := "()V" } : Jvm.MethodName) "PersonSeeds") ∈ lw_tbl := tw_of 88 (by decide +kernel)
theorem tw_89 : (Jvm.Cond.instanceMethod ({ cls := "PersonSeeds$Trails", name := "<init>", desc := "()V" } : Jvm.MethodName)) ∈ lw_tbl := tw_of 89 (by decide +kernel)
theorem tw_90 : (Jvm.Cond.code ({ cls := "PersonSeeds$Trails", name := "<init>", desc := "()V" } : Jvm.MethodName) prog_5_method_1_code (1 : Nat) (Option.none : Option Jvm.ClassFile.FieldType)) ∈ lw_tbl := tw_of 90 (by decide +kernel)
theorem tw_91 : (Jvm.Cond.methodLink "PersonSeeds$Trails" (3 : Nat) ({ cls := "java/lang/Object", name := "<init>", desc := "()V" } : Jvm.MethodName)) ∈ lw_tbl := tw_of 91 (by decide +kernel)
theorem tw_92 : (Jvm.Cond.fieldLink "PersonSeeds$Trails" (9 : Nat) "PersonSeeds$Trails" "moves" "[I") ∈ lw_tbl := tw_of 92 (by decide +kernel)
theorem tw_93 : (Jvm.Cond.fieldLink "PersonSeeds$Trails" (15 : Nat) "PersonSeeds$Trails" "minutes" "[I") ∈ lw_tbl := tw_of 93 (by decide +kernel)
theorem tw_94 : (Jvm.Cond.fieldLink "PersonSeeds$Trails" (18 : Nat) "PersonSeeds$Trails" "places" "[I") ∈ lw_tbl := tw_of 94 (by decide +kernel)
theorem tw_95 : (Jvm.Cond.laysFinal "PersonSeeds$Trails" "PersonSeeds$Trails" "moves" "[I") ∈ lw_tbl := tw_of 95 (by decide +kernel)
theorem tw_96 : (Jvm.Cond.soleField "PersonSeeds$Trails" "moves") ∈ lw_tbl := tw_of 96 (by decide +kernel)
theorem tw_97 : (Jvm.Cond.laysFinal "PersonSeeds$Trails" "PersonSeeds$Trails" "minutes" "[I") ∈ lw_tbl := tw_of 97 (by decide +kernel)
theorem tw_98 : (Jvm.Cond.soleField "PersonSeeds$Trails" "minutes") ∈ lw_tbl := tw_of 98 (by decide +kernel)
theorem tw_99 : (Jvm.Cond.laysFinal "PersonSeeds$Trails" "PersonSeeds$Trails" "places" "[I") ∈ lw_tbl := tw_of 99 (by decide +kernel)
theorem tw_100 : (Jvm.Cond.soleField "PersonSeeds$Trails" "places") ∈ lw_tbl := tw_of 100 (by decide +kernel)
theorem tw_101 : (Jvm.Cond.superclass "PersonSeeds$Trails" "java/lang/Object") ∈ lw_tbl := tw_of 101 (by decide +kernel)
theorem tw_102 : (Jvm.Cond.classLink "PersonSeeds" (30 : Nat) "PersonSeeds$Persons") ∈ lw_tbl := tw_of 102 (by decide +kernel)
theorem tw_103 : (Jvm.Cond.instantiable "PersonSeeds$Persons" (9 : Nat)) ∈ lw_tbl := tw_of 103 (by decide +kernel)
theorem tw_104 : (Jvm.Cond.methodLinkNest "PersonSeeds" (32 : Nat) ({ cls := "PersonSeeds$Persons", name := "<init>", desc := "(J)V" } : Jvm.MethodName) "PersonSeeds") ∈ lw_tbl := tw_of 104 (by decide +kernel)
theorem tw_105 : (Jvm.Cond.instanceMethod ({ cls := "PersonSeeds$Persons", name := "<init>", desc := "(J)V" } : Jvm.MethodName)) ∈ lw_tbl := tw_of 105 (by decide +kernel)
theorem tw_106 : (Jvm.Cond.code ({ cls := "PersonSeeds$Persons", name := "<init>", desc := "(J)V" } : Jvm.MethodName) prog_3_method_1_code (3 : Nat) (Option.none : Option Jvm.ClassFile.FieldType)) ∈ lw_tbl := tw_of 106 (by decide +kernel)
theorem tw_107 : (Jvm.Cond.methodLink "PersonSeeds$Persons" (3 : Nat) ({ cls := "java/lang/Object", name := "<init>", desc := "()V" } : Jvm.MethodName)) ∈ lw_tbl := tw_of 107 (by decide +kernel)
theorem tw_108 : (Jvm.Cond.fieldLink "PersonSeeds$Persons" (33 : Nat) "PersonSeeds$Persons" "seed" "J") ∈ lw_tbl := tw_of 108 (by decide +kernel)
theorem tw_109 : (Jvm.Cond.fieldLink "PersonSeeds$Persons" (37 : Nat) "PersonSeeds$Persons" "count" "I") ∈ lw_tbl := tw_of 109 (by decide +kernel)
theorem tw_110 : (Jvm.Cond.fieldLinkNest "PersonSeeds" (73 : Nat) "PersonSeeds$Persons" "count" "I" "PersonSeeds") ∈ lw_tbl := tw_of 110 (by decide +kernel)
theorem tw_111 : (Jvm.Cond.fieldLink "PersonSeeds$Persons" (9 : Nat) "PersonSeeds$Persons" "comes" "[I") ∈ lw_tbl := tw_of 111 (by decide +kernel)
theorem tw_112 : (Jvm.Cond.fieldLinkNest "PersonSeeds" (92 : Nat) "PersonSeeds$Persons" "comes" "[I" "PersonSeeds") ∈ lw_tbl := tw_of 112 (by decide +kernel)
theorem tw_113 : (Jvm.Cond.fieldLink "PersonSeeds$Persons" (15 : Nat) "PersonSeeds$Persons" "desk" "[I") ∈ lw_tbl := tw_of 113 (by decide +kernel)
theorem tw_114 : (Jvm.Cond.fieldLinkNest "PersonSeeds" (96 : Nat) "PersonSeeds$Persons" "desk" "[I" "PersonSeeds") ∈ lw_tbl := tw_of 114 (by decide +kernel)
theorem tw_115 : (Jvm.Cond.fieldLink "PersonSeeds$Persons" (18 : Nat) "PersonSeeds$Persons" "eatsFrom" "[I") ∈ lw_tbl := tw_of 115 (by decide +kernel)
theorem tw_116 : (Jvm.Cond.fieldLinkNest "PersonSeeds" (99 : Nat) "PersonSeeds$Persons" "eatsFrom" "[I" "PersonSeeds") ∈ lw_tbl := tw_of 116 (by decide +kernel)
theorem tw_117 : (Jvm.Cond.fieldLink "PersonSeeds$Persons" (21 : Nat) "PersonSeeds$Persons" "eatsUntil" "[I") ∈ lw_tbl := tw_of 117 (by decide +kernel)
theorem tw_118 : (Jvm.Cond.fieldLinkNest "PersonSeeds" (102 : Nat) "PersonSeeds$Persons" "eatsUntil" "[I" "PersonSeeds") ∈ lw_tbl := tw_of 118 (by decide +kernel)
theorem tw_119 : (Jvm.Cond.fieldLink "PersonSeeds$Persons" (24 : Nat) "PersonSeeds$Persons" "eatsIn" "[I") ∈ lw_tbl := tw_of 119 (by decide +kernel)
theorem tw_120 : (Jvm.Cond.fieldLinkNest "PersonSeeds" (105 : Nat) "PersonSeeds$Persons" "eatsIn" "[I" "PersonSeeds") ∈ lw_tbl := tw_of 120 (by decide +kernel)
theorem tw_121 : (Jvm.Cond.fieldLink "PersonSeeds$Persons" (27 : Nat) "PersonSeeds$Persons" "leaves" "[I") ∈ lw_tbl := tw_of 121 (by decide +kernel)
theorem tw_122 : (Jvm.Cond.fieldLinkNest "PersonSeeds" (108 : Nat) "PersonSeeds$Persons" "leaves" "[I" "PersonSeeds") ∈ lw_tbl := tw_of 122 (by decide +kernel)
theorem tw_123 : (Jvm.Cond.fieldLink "PersonSeeds$Persons" (30 : Nat) "PersonSeeds$Persons" "waits" "[I") ∈ lw_tbl := tw_of 123 (by decide +kernel)
theorem tw_124 : (Jvm.Cond.fieldLinkNest "PersonSeeds" (121 : Nat) "PersonSeeds$Persons" "waits" "[I" "PersonSeeds") ∈ lw_tbl := tw_of 124 (by decide +kernel)
theorem tw_125 : (Jvm.Cond.laysFinal "PersonSeeds$Persons" "PersonSeeds$Persons" "seed" "J") ∈ lw_tbl := tw_of 125 (by decide +kernel)
theorem tw_126 : (Jvm.Cond.soleField "PersonSeeds$Persons" "seed") ∈ lw_tbl := tw_of 126 (by decide +kernel)
theorem tw_127 : (Jvm.Cond.lays "PersonSeeds$Persons" "PersonSeeds$Persons" "count" "I") ∈ lw_tbl := tw_of 127 (by decide +kernel)
theorem tw_128 : (Jvm.Cond.soleField "PersonSeeds$Persons" "count") ∈ lw_tbl := tw_of 128 (by decide +kernel)
theorem tw_129 : (Jvm.Cond.laysFinal "PersonSeeds$Persons" "PersonSeeds$Persons" "comes" "[I") ∈ lw_tbl := tw_of 129 (by decide +kernel)
theorem tw_130 : (Jvm.Cond.soleField "PersonSeeds$Persons" "comes") ∈ lw_tbl := tw_of 130 (by decide +kernel)
theorem tw_131 : (Jvm.Cond.laysFinal "PersonSeeds$Persons" "PersonSeeds$Persons" "desk" "[I") ∈ lw_tbl := tw_of 131 (by decide +kernel)
theorem tw_132 : (Jvm.Cond.soleField "PersonSeeds$Persons" "desk") ∈ lw_tbl := tw_of 132 (by decide +kernel)
theorem tw_133 : (Jvm.Cond.laysFinal "PersonSeeds$Persons" "PersonSeeds$Persons" "eatsFrom" "[I") ∈ lw_tbl := tw_of 133 (by decide +kernel)
theorem tw_134 : (Jvm.Cond.soleField "PersonSeeds$Persons" "eatsFrom") ∈ lw_tbl := tw_of 134 (by decide +kernel)
theorem tw_135 : (Jvm.Cond.laysFinal "PersonSeeds$Persons" "PersonSeeds$Persons" "eatsUntil" "[I") ∈ lw_tbl := tw_of 135 (by decide +kernel)
theorem tw_136 : (Jvm.Cond.soleField "PersonSeeds$Persons" "eatsUntil") ∈ lw_tbl := tw_of 136 (by decide +kernel)
theorem tw_137 : (Jvm.Cond.laysFinal "PersonSeeds$Persons" "PersonSeeds$Persons" "eatsIn" "[I") ∈ lw_tbl := tw_of 137 (by decide +kernel)
theorem tw_138 : (Jvm.Cond.soleField "PersonSeeds$Persons" "eatsIn") ∈ lw_tbl := tw_of 138 (by decide +kernel)
theorem tw_139 : (Jvm.Cond.laysFinal "PersonSeeds$Persons" "PersonSeeds$Persons" "leaves" "[I") ∈ lw_tbl := tw_of 139 (by decide +kernel)
theorem tw_140 : (Jvm.Cond.soleField "PersonSeeds$Persons" "leaves") ∈ lw_tbl := tw_of 140 (by decide +kernel)
theorem tw_141 : (Jvm.Cond.laysFinal "PersonSeeds$Persons" "PersonSeeds$Persons" "waits" "[I") ∈ lw_tbl := tw_of 141 (by decide +kernel)
theorem tw_142 : (Jvm.Cond.soleField "PersonSeeds$Persons" "waits") ∈ lw_tbl := tw_of 142 (by decide +kernel)
theorem tw_143 : (Jvm.Cond.superclass "PersonSeeds$Persons" "java/lang/Object") ∈ lw_tbl := tw_of 143 (by decide +kernel)
theorem tw_144 : (Jvm.Cond.fieldLink "PersonSeeds" (10 : Nat) "PersonSeeds" "rooms" "LPersonSeeds$Rooms;") ∈ lw_tbl := tw_of 144 (by decide +kernel)
theorem tw_145 : (Jvm.Cond.fieldLink "PersonSeeds" (19 : Nat) "PersonSeeds" "doors" "LPersonSeeds$Doors;") ∈ lw_tbl := tw_of 145 (by decide +kernel)
theorem tw_146 : (Jvm.Cond.fieldLink "PersonSeeds" (26 : Nat) "PersonSeeds" "trails" "LPersonSeeds$Trails;") ∈ lw_tbl := tw_of 146 (by decide +kernel)
theorem tw_147 : (Jvm.Cond.fieldLink "PersonSeeds" (35 : Nat) "PersonSeeds" "persons" "LPersonSeeds$Persons;") ∈ lw_tbl := tw_of 147 (by decide +kernel)
theorem tw_148 : (Jvm.Cond.fieldLink "PersonSeeds" (43 : Nat) "PersonSeeds" "minute" "I") ∈ lw_tbl := tw_of 148 (by decide +kernel)
theorem tw_149 : (Jvm.Cond.fieldLink "PersonSeeds" (83 : Nat) "PersonSeeds" "cameIn" "I") ∈ lw_tbl := tw_of 149 (by decide +kernel)
theorem tw_150 : (Jvm.Cond.fieldLink "PersonSeeds" (86 : Nat) "PersonSeeds" "wentOut" "I") ∈ lw_tbl := tw_of 150 (by decide +kernel)
theorem tw_151 : (Jvm.Cond.laysFinal "PersonSeeds" "PersonSeeds" "rooms" "LPersonSeeds$Rooms;") ∈ lw_tbl := tw_of 151 (by decide +kernel)
theorem tw_152 : (Jvm.Cond.soleField "PersonSeeds" "rooms") ∈ lw_tbl := tw_of 152 (by decide +kernel)
theorem tw_153 : (Jvm.Cond.laysFinal "PersonSeeds" "PersonSeeds" "doors" "LPersonSeeds$Doors;") ∈ lw_tbl := tw_of 153 (by decide +kernel)
theorem tw_154 : (Jvm.Cond.soleField "PersonSeeds" "doors") ∈ lw_tbl := tw_of 154 (by decide +kernel)
theorem tw_155 : (Jvm.Cond.laysFinal "PersonSeeds" "PersonSeeds" "trails" "LPersonSeeds$Trails;") ∈ lw_tbl := tw_of 155 (by decide +kernel)
theorem tw_156 : (Jvm.Cond.soleField "PersonSeeds" "trails") ∈ lw_tbl := tw_of 156 (by decide +kernel)
theorem tw_157 : (Jvm.Cond.laysFinal "PersonSeeds" "PersonSeeds" "persons" "LPersonSeeds$Persons;") ∈ lw_tbl := tw_of 157 (by decide +kernel)
theorem tw_158 : (Jvm.Cond.soleField "PersonSeeds" "persons") ∈ lw_tbl := tw_of 158 (by decide +kernel)
theorem tw_159 : (Jvm.Cond.lays "PersonSeeds" "PersonSeeds" "minute" "I") ∈ lw_tbl := tw_of 159 (by decide +kernel)
theorem tw_160 : (Jvm.Cond.soleField "PersonSeeds" "minute") ∈ lw_tbl := tw_of 160 (by decide +kernel)
theorem tw_161 : (Jvm.Cond.lays "PersonSeeds" "PersonSeeds" "cameIn" "I") ∈ lw_tbl := tw_of 161 (by decide +kernel)
theorem tw_162 : (Jvm.Cond.soleField "PersonSeeds" "cameIn") ∈ lw_tbl := tw_of 162 (by decide +kernel)
theorem tw_163 : (Jvm.Cond.lays "PersonSeeds" "PersonSeeds" "wentOut" "I") ∈ lw_tbl := tw_of 163 (by decide +kernel)
theorem tw_164 : (Jvm.Cond.soleField "PersonSeeds" "wentOut") ∈ lw_tbl := tw_of 164 (by decide +kernel)
theorem tw_165 : (Jvm.Cond.superclass "PersonSeeds" "java/lang/Object") ∈ lw_tbl := tw_of 165 (by decide +kernel)
theorem tw_166 : (Jvm.Cond.methodLink "PersonSeedsLaw" (121 : Nat) ({ cls := "PersonSeeds", name := "entered", desc := "(Z)I" } : Jvm.MethodName)) ∈ lw_tbl := tw_of 166 (by decide +kernel)
theorem tw_167 : (Jvm.Cond.instanceMethod ({ cls := "PersonSeeds", name := "entered", desc := "(Z)I" } : Jvm.MethodName)) ∈ lw_tbl := tw_of 167 (by decide +kernel)
theorem tw_168 : (Jvm.Cond.selects "PersonSeeds" ({ cls := "PersonSeeds", name := "entered", desc := "(Z)I" } : Jvm.MethodName) ({ cls := "PersonSeeds", name := "entered", desc := "(Z)I" } : Jvm.MethodName)) ∈ lw_tbl := tw_of 168 (by decide +kernel)
theorem tw_169 : (Jvm.Cond.code ({ cls := "PersonSeeds", name := "entered", desc := "(Z)I" } : Jvm.MethodName) prog_1_method_16_code (2 : Nat) (Option.some Jvm.ClassFile.FieldType.int)) ∈ lw_tbl := tw_of 169 (by decide +kernel)
theorem tw_170 : (Jvm.Cond.methodLink "PersonSeedsLaw" (59 : Nat) ({ cls := "PersonSeedsLaw", name := "cell", desc := "([II)I" } : Jvm.MethodName)) ∈ lw_tbl := tw_of 170 (by decide +kernel)
theorem tw_171 : (Jvm.Cond.static ({ cls := "PersonSeedsLaw", name := "cell", desc := "([II)I" } : Jvm.MethodName)) ∈ lw_tbl := tw_of 171 (by decide +kernel)
theorem tw_172 : (Jvm.Cond.code ({ cls := "PersonSeedsLaw", name := "cell", desc := "([II)I" } : Jvm.MethodName) method_2_code (2 : Nat) (Option.some Jvm.ClassFile.FieldType.int)) ∈ lw_tbl := tw_of 172 (by decide +kernel)
theorem tw_173 : (Jvm.Cond.methodLink "PersonSeedsLaw" (71 : Nat) ({ cls := "PersonSeedsLaw", name := "room", desc := "(LPersonSeeds;I[J)I" } : Jvm.MethodName)) ∈ lw_tbl := tw_of 173 (by decide +kernel)
theorem tw_174 : (Jvm.Cond.static ({ cls := "PersonSeedsLaw", name := "room", desc := "(LPersonSeeds;I[J)I" } : Jvm.MethodName)) ∈ lw_tbl := tw_of 174 (by decide +kernel)
theorem tw_175 : (Jvm.Cond.codeWith ({ cls := "PersonSeedsLaw", name := "room", desc := "(LPersonSeeds;I[J)I" } : Jvm.MethodName) method_3_code (4 : Nat) (Option.some Jvm.ClassFile.FieldType.int) [((0 : Nat), (9 : Nat), (12 : Nat), (13 : Nat)), ((0 : Nat), (9 : Nat), (15 : Nat), (15 : Nat))]) ∈ lw_tbl := tw_of 175 (by decide +kernel)
theorem tw_176 : (Jvm.Cond.classLink "PersonSeedsLaw" (13 : Nat) "java/lang/IllegalArgumentException") ∈ lw_tbl := tw_of 176 (by decide +kernel)
theorem tw_177 : (Jvm.Cond.classLink "PersonSeedsLaw" (15 : Nat) "java/lang/IllegalStateException") ∈ lw_tbl := tw_of 177 (by decide +kernel)
theorem tw_178 : (Jvm.Cond.methodLink "PersonSeedsLaw" (7 : Nat) ({ cls := "PersonSeeds", name := "room", desc := "(I)I" } : Jvm.MethodName)) ∈ lw_tbl := tw_of 178 (by decide +kernel)
theorem tw_179 : (Jvm.Cond.instanceMethod ({ cls := "PersonSeeds", name := "room", desc := "(I)I" } : Jvm.MethodName)) ∈ lw_tbl := tw_of 179 (by decide +kernel)
theorem tw_180 : (Jvm.Cond.selects "PersonSeeds" ({ cls := "PersonSeeds", name := "room", desc := "(I)I" } : Jvm.MethodName) ({ cls := "PersonSeeds", name := "room", desc := "(I)I" } : Jvm.MethodName)) ∈ lw_tbl := tw_of 180 (by decide +kernel)
theorem tw_181 : (Jvm.Cond.code ({ cls := "PersonSeeds", name := "room", desc := "(I)I" } : Jvm.MethodName) prog_1_method_2_code (3 : Nat) (Option.some Jvm.ClassFile.FieldType.int)) ∈ lw_tbl := tw_of 181 (by decide +kernel)
theorem tw_182 : (Jvm.Cond.methodLink "PersonSeeds" (39 : Nat) ({ cls := "PersonSeeds", name := "checkBounds", desc := "(III)V" } : Jvm.MethodName)) ∈ lw_tbl := tw_of 182 (by decide +kernel)
theorem tw_183 : (Jvm.Cond.static ({ cls := "PersonSeeds", name := "checkBounds", desc := "(III)V" } : Jvm.MethodName)) ∈ lw_tbl := tw_of 183 (by decide +kernel)
theorem tw_184 : (Jvm.Cond.code ({ cls := "PersonSeeds", name := "checkBounds", desc := "(III)V" } : Jvm.MethodName) prog_1_method_20_code (3 : Nat) (Option.none : Option Jvm.ClassFile.FieldType)) ∈ lw_tbl := tw_of 184 (by decide +kernel)
theorem tw_185 : (Jvm.Cond.classLink "PersonSeeds" (153 : Nat) "java/lang/IllegalArgumentException") ∈ lw_tbl := tw_of 185 (by decide +kernel)
theorem tw_186 : (Jvm.Cond.instantiable "java/lang/IllegalArgumentException" (6 : Nat)) ∈ lw_tbl := tw_of 186 (by decide +kernel)
theorem tw_187 : (Jvm.Cond.castable "java/lang/IllegalArgumentException" "java/lang/IllegalArgumentException") ∈ lw_tbl := tw_of 187 (by decide +kernel)
theorem tw_188 : (Jvm.Cond.declares ({ cls := "java/lang/RuntimeException", name := "<init>", desc := "()V" } : Jvm.MethodName)) ∈ lw_tbl := tw_of 188 (by decide +kernel)
theorem tw_189 : (Jvm.Cond.declares ({ cls := "java/lang/RuntimeException", name := "<init>", desc := "(Ljava/lang/String;)V" } : Jvm.MethodName)) ∈ lw_tbl := tw_of 189 (by decide +kernel)
theorem tw_190 : (Jvm.Cond.declares ({ cls := "java/lang/Exception", name := "<init>", desc := "()V" } : Jvm.MethodName)) ∈ lw_tbl := tw_of 190 (by decide +kernel)
theorem tw_191 : (Jvm.Cond.declares ({ cls := "java/lang/Exception", name := "<init>", desc := "(Ljava/lang/String;)V" } : Jvm.MethodName)) ∈ lw_tbl := tw_of 191 (by decide +kernel)
theorem tw_192 : (Jvm.Cond.declares ({ cls := "java/lang/Throwable", name := "<init>", desc := "()V" } : Jvm.MethodName)) ∈ lw_tbl := tw_of 192 (by decide +kernel)
theorem tw_193 : (Jvm.Cond.declares ({ cls := "java/lang/Throwable", name := "<init>", desc := "(Ljava/lang/String;)V" } : Jvm.MethodName)) ∈ lw_tbl := tw_of 193 (by decide +kernel)
theorem tw_194 : (Jvm.Cond.selects "java/lang/IllegalArgumentException" ({ cls := "java/lang/Throwable", name := "fillInStackTrace", desc := "(I)Ljava/lang/Throwable;" } : Jvm.MethodName) ({ cls := "java/lang/Throwable", name := "fillInStackTrace", desc := "(I)Ljava/lang/Throwable;" } : Jvm.MethodName)) ∈ lw_tbl := tw_of 194 (by decide +kernel)
theorem tw_195 : (Jvm.Cond.selects "java/lang/IllegalArgumentException" ({ cls := "java/lang/Throwable", name := "fillInStackTrace", desc := "()Ljava/lang/Throwable;" } : Jvm.MethodName) ({ cls := "java/lang/Throwable", name := "fillInStackTrace", desc := "()Ljava/lang/Throwable;" } : Jvm.MethodName)) ∈ lw_tbl := tw_of 195 (by decide +kernel)
theorem tw_196 : (Jvm.Cond.lays "java/lang/IllegalArgumentException" "java/lang/Throwable" "cause" "Ljava/lang/Throwable;") ∈ lw_tbl := tw_of 196 (by decide +kernel)
theorem tw_197 : (Jvm.Cond.lays "java/lang/Throwable" "java/lang/Throwable" "cause" "Ljava/lang/Throwable;") ∈ lw_tbl := tw_of 197 (by decide +kernel)
theorem tw_198 : (Jvm.Cond.lays "java/lang/IllegalArgumentException" "java/lang/Throwable" "stackTrace" "[Ljava/lang/StackTraceElement;") ∈ lw_tbl := tw_of 198 (by decide +kernel)
theorem tw_199 : (Jvm.Cond.lays "java/lang/Throwable" "java/lang/Throwable" "stackTrace" "[Ljava/lang/StackTraceElement;") ∈ lw_tbl := tw_of 199 (by decide +kernel)
theorem tw_200 : (Jvm.Cond.lays "java/lang/IllegalArgumentException" "java/lang/Throwable" "suppressedExceptions" "Ljava/util/List;") ∈ lw_tbl := tw_of 200 (by decide +kernel)
theorem tw_201 : (Jvm.Cond.lays "java/lang/Throwable" "java/lang/Throwable" "suppressedExceptions" "Ljava/util/List;") ∈ lw_tbl := tw_of 201 (by decide +kernel)
theorem tw_202 : (Jvm.Cond.lays "java/lang/IllegalArgumentException" "java/lang/Throwable" "detailMessage" "Ljava/lang/String;") ∈ lw_tbl := tw_of 202 (by decide +kernel)
theorem tw_203 : (Jvm.Cond.lays "java/lang/Throwable" "java/lang/Throwable" "detailMessage" "Ljava/lang/String;") ∈ lw_tbl := tw_of 203 (by decide +kernel)
theorem tw_204 : (Jvm.Cond.lays "java/lang/IllegalArgumentException" "java/lang/Throwable" "backtrace" "Ljava/lang/Object;") ∈ lw_tbl := tw_of 204 (by decide +kernel)
theorem tw_205 : (Jvm.Cond.lays "java/lang/Throwable" "java/lang/Throwable" "backtrace" "Ljava/lang/Object;") ∈ lw_tbl := tw_of 205 (by decide +kernel)
theorem tw_206 : (Jvm.Cond.fieldLink "java/lang/Throwable" (198 : Nat) "java/lang/Throwable" "backtrace" "Ljava/lang/Object;") ∈ lw_tbl := tw_of 206 (by decide +kernel)
theorem tw_207 : (Jvm.Cond.superclass "java/lang/Throwable" "java/lang/Object") ∈ lw_tbl := tw_of 207 (by decide +kernel)
theorem tw_208 : (Jvm.Cond.instanceMethod ({ cls := "java/lang/Throwable", name := "<init>", desc := "()V" } : Jvm.MethodName)) ∈ lw_tbl := tw_of 208 (by decide +kernel)
theorem tw_209 : (Jvm.Cond.code ({ cls := "java/lang/Throwable", name := "<init>", desc := "()V" } : Jvm.MethodName) prog_14_method_1_code (1 : Nat) (Option.none : Option Jvm.ClassFile.FieldType)) ∈ lw_tbl := tw_of 209 (by decide +kernel)
theorem tw_210 : (Jvm.Cond.methodLink "java/lang/Throwable" (1 : Nat) ({ cls := "java/lang/Object", name := "<init>", desc := "()V" } : Jvm.MethodName)) ∈ lw_tbl := tw_of 210 (by decide +kernel)
theorem tw_211 : (Jvm.Cond.fieldLink "java/lang/Throwable" (13 : Nat) "java/lang/Throwable" "UNASSIGNED_STACK" "[Ljava/lang/StackTraceElement;") ∈ lw_tbl := tw_of 211 (by decide +kernel)
theorem tw_212 : (Jvm.Cond.laysStatic "java/lang/Throwable" "UNASSIGNED_STACK" "[Ljava/lang/StackTraceElement;") ∈ lw_tbl := tw_of 212 (by decide +kernel)
theorem tw_213 : (Jvm.Cond.fieldLink "java/lang/Throwable" (20 : Nat) "java/lang/Throwable" "SUPPRESSED_SENTINEL" "Ljava/util/List;") ∈ lw_tbl := tw_of 213 (by decide +kernel)
theorem tw_214 : (Jvm.Cond.laysStatic "java/lang/Throwable" "SUPPRESSED_SENTINEL" "Ljava/util/List;") ∈ lw_tbl := tw_of 214 (by decide +kernel)
theorem tw_215 : (Jvm.Cond.methodLink "java/lang/Throwable" (27 : Nat) ({ cls := "java/lang/Throwable", name := "fillInStackTrace", desc := "()Ljava/lang/Throwable;" } : Jvm.MethodName)) ∈ lw_tbl := tw_of 215 (by decide +kernel)
theorem tw_216 : (Jvm.Cond.instanceMethod ({ cls := "java/lang/Throwable", name := "fillInStackTrace", desc := "()Ljava/lang/Throwable;" } : Jvm.MethodName)) ∈ lw_tbl := tw_of 216 (by decide +kernel)
theorem tw_217 : (Jvm.Cond.sameMethod "java/lang/Throwable" "java/lang/Throwable" "fillInStackTrace" "()Ljava/lang/Throwable;") ∈ lw_tbl := tw_of 217 (by decide +kernel)
theorem tw_218 : (Jvm.Cond.selects "java/lang/IllegalStateException" ({ cls := "java/lang/Throwable", name := "fillInStackTrace", desc := "()Ljava/lang/Throwable;" } : Jvm.MethodName) ({ cls := "java/lang/Throwable", name := "fillInStackTrace", desc := "()Ljava/lang/Throwable;" } : Jvm.MethodName)) ∈ lw_tbl := tw_of 218 (by decide +kernel)
theorem tw_219 : (Jvm.Cond.codeSync ({ cls := "java/lang/Throwable", name := "fillInStackTrace", desc := "()Ljava/lang/Throwable;" } : Jvm.MethodName) prog_14_method_18_code (1 : Nat) (Option.some (Jvm.ClassFile.FieldType.object "java/lang/Throwable"))) ∈ lw_tbl := tw_of 219 (by decide +kernel)
theorem tw_220 : (Jvm.Cond.methodLink "java/lang/Throwable" (202 : Nat) ({ cls := "java/lang/Throwable", name := "fillInStackTrace", desc := "(I)Ljava/lang/Throwable;" } : Jvm.MethodName)) ∈ lw_tbl := tw_of 220 (by decide +kernel)
theorem tw_221 : (Jvm.Cond.privateMethod ({ cls := "java/lang/Throwable", name := "fillInStackTrace", desc := "(I)Ljava/lang/Throwable;" } : Jvm.MethodName)) ∈ lw_tbl := tw_of 221 (by decide +kernel)
theorem tw_222 : (Jvm.Cond.instanceMethod ({ cls := "java/lang/Throwable", name := "fillInStackTrace", desc := "(I)Ljava/lang/Throwable;" } : Jvm.MethodName)) ∈ lw_tbl := tw_of 222 (by decide +kernel)
theorem tw_223 : (Jvm.Cond.instantiable "java/lang/Throwable" (6 : Nat)) ∈ lw_tbl := tw_of 223 (by decide +kernel)
theorem tw_224 : (Jvm.Cond.native ({ cls := "java/lang/Throwable", name := "fillInStackTrace", desc := "(I)Ljava/lang/Throwable;" } : Jvm.MethodName)) ∈ lw_tbl := tw_of 224 (by decide +kernel)
theorem tw_225 : (Jvm.Cond.stringRef "PersonSeeds" (155 : Nat) "out of bounds, or there is no such one") ∈ lw_tbl := tw_of 225 (by decide +kernel)
theorem tw_226 : (Jvm.Cond.methodLink "PersonSeeds" (157 : Nat) ({ cls := "java/lang/IllegalArgumentException", name := "<init>", desc := "(Ljava/lang/String;)V" } : Jvm.MethodName)) ∈ lw_tbl := tw_of 226 (by decide +kernel)
theorem tw_227 : (Jvm.Cond.instanceMethod ({ cls := "java/lang/IllegalArgumentException", name := "<init>", desc := "(Ljava/lang/String;)V" } : Jvm.MethodName)) ∈ lw_tbl := tw_of 227 (by decide +kernel)
theorem tw_228 : (Jvm.Cond.code ({ cls := "java/lang/IllegalArgumentException", name := "<init>", desc := "(Ljava/lang/String;)V" } : Jvm.MethodName) prog_9_method_2_code (2 : Nat) (Option.none : Option Jvm.ClassFile.FieldType)) ∈ lw_tbl := tw_of 228 (by decide +kernel)
theorem tw_229 : (Jvm.Cond.methodLink "java/lang/IllegalArgumentException" (7 : Nat) ({ cls := "java/lang/RuntimeException", name := "<init>", desc := "(Ljava/lang/String;)V" } : Jvm.MethodName)) ∈ lw_tbl := tw_of 229 (by decide +kernel)
theorem tw_230 : (Jvm.Cond.instanceMethod ({ cls := "java/lang/RuntimeException", name := "<init>", desc := "(Ljava/lang/String;)V" } : Jvm.MethodName)) ∈ lw_tbl := tw_of 230 (by decide +kernel)
theorem tw_231 : (Jvm.Cond.code ({ cls := "java/lang/RuntimeException", name := "<init>", desc := "(Ljava/lang/String;)V" } : Jvm.MethodName) prog_12_method_2_code (2 : Nat) (Option.none : Option Jvm.ClassFile.FieldType)) ∈ lw_tbl := tw_of 231 (by decide +kernel)
theorem tw_232 : (Jvm.Cond.methodLink "java/lang/RuntimeException" (7 : Nat) ({ cls := "java/lang/Exception", name := "<init>", desc := "(Ljava/lang/String;)V" } : Jvm.MethodName)) ∈ lw_tbl := tw_of 232 (by decide +kernel)
theorem tw_233 : (Jvm.Cond.instanceMethod ({ cls := "java/lang/Exception", name := "<init>", desc := "(Ljava/lang/String;)V" } : Jvm.MethodName)) ∈ lw_tbl := tw_of 233 (by decide +kernel)
theorem tw_234 : (Jvm.Cond.code ({ cls := "java/lang/Exception", name := "<init>", desc := "(Ljava/lang/String;)V" } : Jvm.MethodName) prog_8_method_2_code (2 : Nat) (Option.none : Option Jvm.ClassFile.FieldType)) ∈ lw_tbl := tw_of 234 (by decide +kernel)
theorem tw_235 : (Jvm.Cond.methodLink "java/lang/Exception" (7 : Nat) ({ cls := "java/lang/Throwable", name := "<init>", desc := "(Ljava/lang/String;)V" } : Jvm.MethodName)) ∈ lw_tbl := tw_of 235 (by decide +kernel)
theorem tw_236 : (Jvm.Cond.instanceMethod ({ cls := "java/lang/Throwable", name := "<init>", desc := "(Ljava/lang/String;)V" } : Jvm.MethodName)) ∈ lw_tbl := tw_of 236 (by decide +kernel)
theorem tw_237 : (Jvm.Cond.code ({ cls := "java/lang/Throwable", name := "<init>", desc := "(Ljava/lang/String;)V" } : Jvm.MethodName) prog_14_method_2_code (2 : Nat) (Option.none : Option Jvm.ClassFile.FieldType)) ∈ lw_tbl := tw_of 237 (by decide +kernel)
theorem tw_238 : (Jvm.Cond.fieldLink "java/lang/Throwable" (198 : Nat) "java/lang/Throwable" "backtrace" "Ljava/lang/Object;") ∈ lw_tbl := tw_of 238 (by decide +kernel)
theorem tw_239 : (Jvm.Cond.fieldLink "java/lang/Throwable" (31 : Nat) "java/lang/Throwable" "detailMessage" "Ljava/lang/String;") ∈ lw_tbl := tw_of 239 (by decide +kernel)
theorem tw_240 : (Jvm.Cond.fieldLink "java/lang/Throwable" (7 : Nat) "java/lang/Throwable" "cause" "Ljava/lang/Throwable;") ∈ lw_tbl := tw_of 240 (by decide +kernel)
theorem tw_241 : (Jvm.Cond.fieldLink "java/lang/Throwable" (17 : Nat) "java/lang/Throwable" "stackTrace" "[Ljava/lang/StackTraceElement;") ∈ lw_tbl := tw_of 241 (by decide +kernel)
theorem tw_242 : (Jvm.Cond.fieldLink "java/lang/Throwable" (24 : Nat) "java/lang/Throwable" "suppressedExceptions" "Ljava/util/List;") ∈ lw_tbl := tw_of 242 (by decide +kernel)
theorem tw_243 : (Jvm.Cond.soleField "java/lang/Throwable" "backtrace") ∈ lw_tbl := tw_of 243 (by decide +kernel)
theorem tw_244 : (Jvm.Cond.soleField "java/lang/Throwable" "detailMessage") ∈ lw_tbl := tw_of 244 (by decide +kernel)
theorem tw_245 : (Jvm.Cond.soleField "java/lang/Throwable" "cause") ∈ lw_tbl := tw_of 245 (by decide +kernel)
theorem tw_246 : (Jvm.Cond.soleField "java/lang/Throwable" "stackTrace") ∈ lw_tbl := tw_of 246 (by decide +kernel)
theorem tw_247 : (Jvm.Cond.lays "java/lang/IllegalArgumentException" "java/lang/Throwable" "depth" "I") ∈ lw_tbl := tw_of 247 (by decide +kernel)
theorem tw_248 : (Jvm.Cond.soleField "java/lang/Throwable" "depth") ∈ lw_tbl := tw_of 248 (by decide +kernel)
theorem tw_249 : (Jvm.Cond.soleField "java/lang/Throwable" "suppressedExceptions") ∈ lw_tbl := tw_of 249 (by decide +kernel)
theorem tw_250 : (Jvm.Cond.superclass "java/lang/IllegalArgumentException" "java/lang/RuntimeException") ∈ lw_tbl := tw_of 250 (by decide +kernel)
theorem tw_251 : (Jvm.Cond.arrayClass Jvm.ClassFile.FieldType.byte) ∈ lw_tbl := tw_of 251 (by decide +kernel)
theorem tw_252 : (Jvm.Cond.methodLink "PersonSeeds" (50 : Nat) ({ cls := "PersonSeeds", name := "checkState", desc := "(Z)V" } : Jvm.MethodName)) ∈ lw_tbl := tw_of 252 (by decide +kernel)
theorem tw_253 : (Jvm.Cond.static ({ cls := "PersonSeeds", name := "checkState", desc := "(Z)V" } : Jvm.MethodName)) ∈ lw_tbl := tw_of 253 (by decide +kernel)
theorem tw_254 : (Jvm.Cond.code ({ cls := "PersonSeeds", name := "checkState", desc := "(Z)V" } : Jvm.MethodName) prog_1_method_22_code (1 : Nat) (Option.none : Option Jvm.ClassFile.FieldType)) ∈ lw_tbl := tw_of 254 (by decide +kernel)
theorem tw_255 : (Jvm.Cond.classLink "PersonSeeds" (162 : Nat) "java/lang/IllegalStateException") ∈ lw_tbl := tw_of 255 (by decide +kernel)
theorem tw_256 : (Jvm.Cond.instantiable "java/lang/IllegalStateException" (6 : Nat)) ∈ lw_tbl := tw_of 256 (by decide +kernel)
theorem tw_257 : (Jvm.Cond.castable "java/lang/IllegalStateException" "java/lang/IllegalStateException") ∈ lw_tbl := tw_of 257 (by decide +kernel)
theorem tw_258 : (Jvm.Cond.selects "java/lang/IllegalStateException" ({ cls := "java/lang/Throwable", name := "fillInStackTrace", desc := "(I)Ljava/lang/Throwable;" } : Jvm.MethodName) ({ cls := "java/lang/Throwable", name := "fillInStackTrace", desc := "(I)Ljava/lang/Throwable;" } : Jvm.MethodName)) ∈ lw_tbl := tw_of 258 (by decide +kernel)
theorem tw_259 : (Jvm.Cond.lays "java/lang/IllegalStateException" "java/lang/Throwable" "cause" "Ljava/lang/Throwable;") ∈ lw_tbl := tw_of 259 (by decide +kernel)
theorem tw_260 : (Jvm.Cond.lays "java/lang/IllegalStateException" "java/lang/Throwable" "stackTrace" "[Ljava/lang/StackTraceElement;") ∈ lw_tbl := tw_of 260 (by decide +kernel)
theorem tw_261 : (Jvm.Cond.lays "java/lang/IllegalStateException" "java/lang/Throwable" "suppressedExceptions" "Ljava/util/List;") ∈ lw_tbl := tw_of 261 (by decide +kernel)
theorem tw_262 : (Jvm.Cond.lays "java/lang/IllegalStateException" "java/lang/Throwable" "detailMessage" "Ljava/lang/String;") ∈ lw_tbl := tw_of 262 (by decide +kernel)
theorem tw_263 : (Jvm.Cond.lays "java/lang/IllegalStateException" "java/lang/Throwable" "backtrace" "Ljava/lang/Object;") ∈ lw_tbl := tw_of 263 (by decide +kernel)
theorem tw_264 : (Jvm.Cond.stringRef "PersonSeeds" (164 : Nat) "not now, or no more of these") ∈ lw_tbl := tw_of 264 (by decide +kernel)
theorem tw_265 : (Jvm.Cond.methodLink "PersonSeeds" (166 : Nat) ({ cls := "java/lang/IllegalStateException", name := "<init>", desc := "(Ljava/lang/String;)V" } : Jvm.MethodName)) ∈ lw_tbl := tw_of 265 (by decide +kernel)
theorem tw_266 : (Jvm.Cond.instanceMethod ({ cls := "java/lang/IllegalStateException", name := "<init>", desc := "(Ljava/lang/String;)V" } : Jvm.MethodName)) ∈ lw_tbl := tw_of 266 (by decide +kernel)
theorem tw_267 : (Jvm.Cond.code ({ cls := "java/lang/IllegalStateException", name := "<init>", desc := "(Ljava/lang/String;)V" } : Jvm.MethodName) prog_10_method_2_code (2 : Nat) (Option.none : Option Jvm.ClassFile.FieldType)) ∈ lw_tbl := tw_of 267 (by decide +kernel)
theorem tw_268 : (Jvm.Cond.methodLink "java/lang/IllegalStateException" (7 : Nat) ({ cls := "java/lang/RuntimeException", name := "<init>", desc := "(Ljava/lang/String;)V" } : Jvm.MethodName)) ∈ lw_tbl := tw_of 268 (by decide +kernel)
theorem tw_269 : (Jvm.Cond.lays "java/lang/IllegalStateException" "java/lang/Throwable" "depth" "I") ∈ lw_tbl := tw_of 269 (by decide +kernel)
theorem tw_270 : (Jvm.Cond.superclass "java/lang/IllegalStateException" "java/lang/RuntimeException") ∈ lw_tbl := tw_of 270 (by decide +kernel)
theorem tw_271 : (Jvm.Cond.methodLinkNest "PersonSeeds" (54 : Nat) ({ cls := "PersonSeeds$Rooms", name := "add", desc := "(I)I" } : Jvm.MethodName) "PersonSeeds") ∈ lw_tbl := tw_of 271 (by decide +kernel)
theorem tw_272 : (Jvm.Cond.privateMethod ({ cls := "PersonSeeds$Rooms", name := "add", desc := "(I)I" } : Jvm.MethodName)) ∈ lw_tbl := tw_of 272 (by decide +kernel)
theorem tw_273 : (Jvm.Cond.instanceMethod ({ cls := "PersonSeeds$Rooms", name := "add", desc := "(I)I" } : Jvm.MethodName)) ∈ lw_tbl := tw_of 273 (by decide +kernel)
theorem tw_274 : (Jvm.Cond.code ({ cls := "PersonSeeds$Rooms", name := "add", desc := "(I)I" } : Jvm.MethodName) prog_4_method_2_code (2 : Nat) (Option.some Jvm.ClassFile.FieldType.int)) ∈ lw_tbl := tw_of 274 (by decide +kernel)
theorem tw_275 : (Jvm.Cond.methodLinkNest "PersonSeeds" (58 : Nat) ({ cls := "PersonSeeds$Persons", name := "plan", desc := "(I)V" } : Jvm.MethodName) "PersonSeeds") ∈ lw_tbl := tw_of 275 (by decide +kernel)
theorem tw_276 : (Jvm.Cond.privateMethod ({ cls := "PersonSeeds$Persons", name := "plan", desc := "(I)V" } : Jvm.MethodName)) ∈ lw_tbl := tw_of 276 (by decide +kernel)
theorem tw_277 : (Jvm.Cond.instanceMethod ({ cls := "PersonSeeds$Persons", name := "plan", desc := "(I)V" } : Jvm.MethodName)) ∈ lw_tbl := tw_of 277 (by decide +kernel)
theorem tw_278 : (Jvm.Cond.code ({ cls := "PersonSeeds$Persons", name := "plan", desc := "(I)V" } : Jvm.MethodName) prog_3_method_3_code (3 : Nat) (Option.none : Option Jvm.ClassFile.FieldType)) ∈ lw_tbl := tw_of 278 (by decide +kernel)
theorem tw_279 : (Jvm.Cond.methodLink "PersonSeeds$Persons" (41 : Nat) ({ cls := "PersonSeeds$Persons", name := "drawn", desc := "(III)I" } : Jvm.MethodName)) ∈ lw_tbl := tw_of 279 (by decide +kernel)
theorem tw_280 : (Jvm.Cond.privateMethod ({ cls := "PersonSeeds$Persons", name := "drawn", desc := "(III)I" } : Jvm.MethodName)) ∈ lw_tbl := tw_of 280 (by decide +kernel)
theorem tw_281 : (Jvm.Cond.instanceMethod ({ cls := "PersonSeeds$Persons", name := "drawn", desc := "(III)I" } : Jvm.MethodName)) ∈ lw_tbl := tw_of 281 (by decide +kernel)
theorem tw_282 : (Jvm.Cond.code ({ cls := "PersonSeeds$Persons", name := "drawn", desc := "(III)I" } : Jvm.MethodName) prog_3_method_4_code (6 : Nat) (Option.some Jvm.ClassFile.FieldType.int)) ∈ lw_tbl := tw_of 282 (by decide +kernel)
theorem tw_283 : (Jvm.Cond.constantLong "PersonSeeds$Persons" (45 : Nat) (-7046029254386353131 : Int64)) ∈ lw_tbl := tw_of 283 (by decide +kernel)
theorem tw_284 : (Jvm.Cond.constantLong "PersonSeeds$Persons" (47 : Nat) (-4658895280553007687 : Int64)) ∈ lw_tbl := tw_of 284 (by decide +kernel)
theorem tw_285 : (Jvm.Cond.constantLong "PersonSeeds$Persons" (49 : Nat) (-7723592293110705685 : Int64)) ∈ lw_tbl := tw_of 285 (by decide +kernel)
theorem tw_286 : (Jvm.Cond.methodLink "PersonSeedsLaw" (79 : Nat) ({ cls := "PersonSeedsLaw", name := "door", desc := "(LPersonSeeds;III[J)I" } : Jvm.MethodName)) ∈ lw_tbl := tw_of 286 (by decide +kernel)
theorem tw_287 : (Jvm.Cond.static ({ cls := "PersonSeedsLaw", name := "door", desc := "(LPersonSeeds;III[J)I" } : Jvm.MethodName)) ∈ lw_tbl := tw_of 287 (by decide +kernel)
theorem tw_288 : (Jvm.Cond.codeWith ({ cls := "PersonSeedsLaw", name := "door", desc := "(LPersonSeeds;III[J)I" } : Jvm.MethodName) method_4_code (6 : Nat) (Option.some Jvm.ClassFile.FieldType.int) [((0 : Nat), (12 : Nat), (15 : Nat), (13 : Nat)), ((0 : Nat), (12 : Nat), (19 : Nat), (15 : Nat))]) ∈ lw_tbl := tw_of 288 (by decide +kernel)
theorem tw_289 : (Jvm.Cond.methodLink "PersonSeedsLaw" (17 : Nat) ({ cls := "PersonSeeds", name := "door", desc := "(III)I" } : Jvm.MethodName)) ∈ lw_tbl := tw_of 289 (by decide +kernel)
theorem tw_290 : (Jvm.Cond.instanceMethod ({ cls := "PersonSeeds", name := "door", desc := "(III)I" } : Jvm.MethodName)) ∈ lw_tbl := tw_of 290 (by decide +kernel)
theorem tw_291 : (Jvm.Cond.selects "PersonSeeds" ({ cls := "PersonSeeds", name := "door", desc := "(III)I" } : Jvm.MethodName) ({ cls := "PersonSeeds", name := "door", desc := "(III)I" } : Jvm.MethodName)) ∈ lw_tbl := tw_of 291 (by decide +kernel)
theorem tw_292 : (Jvm.Cond.code ({ cls := "PersonSeeds", name := "door", desc := "(III)I" } : Jvm.MethodName) prog_1_method_3_code (4 : Nat) (Option.some Jvm.ClassFile.FieldType.int)) ∈ lw_tbl := tw_of 292 (by decide +kernel)
theorem tw_293 : (Jvm.Cond.methodLink "PersonSeeds" (62 : Nat) ({ cls := "PersonSeeds", name := "checkRoom", desc := "(I)V" } : Jvm.MethodName)) ∈ lw_tbl := tw_of 293 (by decide +kernel)
theorem tw_294 : (Jvm.Cond.privateMethod ({ cls := "PersonSeeds", name := "checkRoom", desc := "(I)V" } : Jvm.MethodName)) ∈ lw_tbl := tw_of 294 (by decide +kernel)
theorem tw_295 : (Jvm.Cond.instanceMethod ({ cls := "PersonSeeds", name := "checkRoom", desc := "(I)V" } : Jvm.MethodName)) ∈ lw_tbl := tw_of 295 (by decide +kernel)
theorem tw_296 : (Jvm.Cond.code ({ cls := "PersonSeeds", name := "checkRoom", desc := "(I)V" } : Jvm.MethodName) prog_1_method_17_code (2 : Nat) (Option.none : Option Jvm.ClassFile.FieldType)) ∈ lw_tbl := tw_of 296 (by decide +kernel)
theorem tw_297 : (Jvm.Cond.methodLink "PersonSeeds" (65 : Nat) ({ cls := "PersonSeeds", name := "checkDifferent", desc := "(II)V" } : Jvm.MethodName)) ∈ lw_tbl := tw_of 297 (by decide +kernel)
theorem tw_298 : (Jvm.Cond.static ({ cls := "PersonSeeds", name := "checkDifferent", desc := "(II)V" } : Jvm.MethodName)) ∈ lw_tbl := tw_of 298 (by decide +kernel)
theorem tw_299 : (Jvm.Cond.code ({ cls := "PersonSeeds", name := "checkDifferent", desc := "(II)V" } : Jvm.MethodName) prog_1_method_21_code (2 : Nat) (Option.none : Option Jvm.ClassFile.FieldType)) ∈ lw_tbl := tw_of 299 (by decide +kernel)
theorem tw_300 : (Jvm.Cond.stringRef "PersonSeeds" (160 : Nat) "both are one") ∈ lw_tbl := tw_of 300 (by decide +kernel)
theorem tw_301 : (Jvm.Cond.methodLinkNest "PersonSeeds" (70 : Nat) ({ cls := "PersonSeeds$Doors", name := "add", desc := "(III)I" } : Jvm.MethodName) "PersonSeeds") ∈ lw_tbl := tw_of 301 (by decide +kernel)
theorem tw_302 : (Jvm.Cond.privateMethod ({ cls := "PersonSeeds$Doors", name := "add", desc := "(III)I" } : Jvm.MethodName)) ∈ lw_tbl := tw_of 302 (by decide +kernel)
theorem tw_303 : (Jvm.Cond.instanceMethod ({ cls := "PersonSeeds$Doors", name := "add", desc := "(III)I" } : Jvm.MethodName)) ∈ lw_tbl := tw_of 303 (by decide +kernel)
theorem tw_304 : (Jvm.Cond.code ({ cls := "PersonSeeds$Doors", name := "add", desc := "(III)I" } : Jvm.MethodName) prog_2_method_2_code (4 : Nat) (Option.some Jvm.ClassFile.FieldType.int)) ∈ lw_tbl := tw_of 304 (by decide +kernel)
theorem tw_305 : (Jvm.Cond.methodLink "PersonSeeds$Doors" (43 : Nat) ({ cls := "PersonSeeds$Doors", name := "shortenWays", desc := "(II)V" } : Jvm.MethodName)) ∈ lw_tbl := tw_of 305 (by decide +kernel)
theorem tw_306 : (Jvm.Cond.privateMethod ({ cls := "PersonSeeds$Doors", name := "shortenWays", desc := "(II)V" } : Jvm.MethodName)) ∈ lw_tbl := tw_of 306 (by decide +kernel)
theorem tw_307 : (Jvm.Cond.instanceMethod ({ cls := "PersonSeeds$Doors", name := "shortenWays", desc := "(II)V" } : Jvm.MethodName)) ∈ lw_tbl := tw_of 307 (by decide +kernel)
theorem tw_308 : (Jvm.Cond.code ({ cls := "PersonSeeds$Doors", name := "shortenWays", desc := "(II)V" } : Jvm.MethodName) prog_2_method_3_code (8 : Nat) (Option.none : Option Jvm.ClassFile.FieldType)) ∈ lw_tbl := tw_of 308 (by decide +kernel)
theorem tw_309 : (Jvm.Cond.methodLink "PersonSeeds$Doors" (47 : Nat) ({ cls := "PersonSeeds$Doors", name := "stepsBetween", desc := "(II)I" } : Jvm.MethodName)) ∈ lw_tbl := tw_of 309 (by decide +kernel)
theorem tw_310 : (Jvm.Cond.privateMethod ({ cls := "PersonSeeds$Doors", name := "stepsBetween", desc := "(II)I" } : Jvm.MethodName)) ∈ lw_tbl := tw_of 310 (by decide +kernel)
theorem tw_311 : (Jvm.Cond.instanceMethod ({ cls := "PersonSeeds$Doors", name := "stepsBetween", desc := "(II)I" } : Jvm.MethodName)) ∈ lw_tbl := tw_of 311 (by decide +kernel)
theorem tw_312 : (Jvm.Cond.code ({ cls := "PersonSeeds$Doors", name := "stepsBetween", desc := "(II)I" } : Jvm.MethodName) prog_2_method_4_code (3 : Nat) (Option.some Jvm.ClassFile.FieldType.int)) ∈ lw_tbl := tw_of 312 (by decide +kernel)
theorem tw_313 : (Jvm.Cond.methodLink "PersonSeeds$Doors" (51 : Nat) ({ cls := "java/lang/Math", name := "min", desc := "(II)I" } : Jvm.MethodName)) ∈ lw_tbl := tw_of 313 (by decide +kernel)
theorem tw_314 : (Jvm.Cond.static ({ cls := "java/lang/Math", name := "min", desc := "(II)I" } : Jvm.MethodName)) ∈ lw_tbl := tw_of 314 (by decide +kernel)
theorem tw_315 : (Jvm.Cond.code ({ cls := "java/lang/Math", name := "min", desc := "(II)I" } : Jvm.MethodName) prog_11_method_69_code (2 : Nat) (Option.some Jvm.ClassFile.FieldType.int)) ∈ lw_tbl := tw_of 315 (by decide +kernel)
theorem tw_316 : (Jvm.Cond.methodLink "PersonSeedsLaw" (83 : Nat) ({ cls := "PersonSeedsLaw", name := "arrives", desc := "(LPersonSeeds;II[J)I" } : Jvm.MethodName)) ∈ lw_tbl := tw_of 316 (by decide +kernel)
theorem tw_317 : (Jvm.Cond.static ({ cls := "PersonSeedsLaw", name := "arrives", desc := "(LPersonSeeds;II[J)I" } : Jvm.MethodName)) ∈ lw_tbl := tw_of 317 (by decide +kernel)
theorem tw_318 : (Jvm.Cond.codeWith ({ cls := "PersonSeedsLaw", name := "arrives", desc := "(LPersonSeeds;II[J)I" } : Jvm.MethodName) method_5_code (5 : Nat) (Option.some Jvm.ClassFile.FieldType.int) [((0 : Nat), (10 : Nat), (13 : Nat), (13 : Nat)), ((0 : Nat), (10 : Nat), (17 : Nat), (15 : Nat))]) ∈ lw_tbl := tw_of 318 (by decide +kernel)
theorem tw_319 : (Jvm.Cond.methodLink "PersonSeedsLaw" (21 : Nat) ({ cls := "PersonSeeds", name := "arrives", desc := "(II)I" } : Jvm.MethodName)) ∈ lw_tbl := tw_of 319 (by decide +kernel)
theorem tw_320 : (Jvm.Cond.instanceMethod ({ cls := "PersonSeeds", name := "arrives", desc := "(II)I" } : Jvm.MethodName)) ∈ lw_tbl := tw_of 320 (by decide +kernel)
theorem tw_321 : (Jvm.Cond.selects "PersonSeeds" ({ cls := "PersonSeeds", name := "arrives", desc := "(II)I" } : Jvm.MethodName) ({ cls := "PersonSeeds", name := "arrives", desc := "(II)I" } : Jvm.MethodName)) ∈ lw_tbl := tw_of 321 (by decide +kernel)
theorem tw_322 : (Jvm.Cond.code ({ cls := "PersonSeeds", name := "arrives", desc := "(II)I" } : Jvm.MethodName) prog_1_method_4_code (3 : Nat) (Option.some Jvm.ClassFile.FieldType.int)) ∈ lw_tbl := tw_of 322 (by decide +kernel)
theorem tw_323 : (Jvm.Cond.methodLinkNest "PersonSeeds" (74 : Nat) ({ cls := "PersonSeeds$Persons", name := "add", desc := "(II)V" } : Jvm.MethodName) "PersonSeeds") ∈ lw_tbl := tw_of 323 (by decide +kernel)
theorem tw_324 : (Jvm.Cond.privateMethod ({ cls := "PersonSeeds$Persons", name := "add", desc := "(II)V" } : Jvm.MethodName)) ∈ lw_tbl := tw_of 324 (by decide +kernel)
theorem tw_325 : (Jvm.Cond.instanceMethod ({ cls := "PersonSeeds$Persons", name := "add", desc := "(II)V" } : Jvm.MethodName)) ∈ lw_tbl := tw_of 325 (by decide +kernel)
theorem tw_326 : (Jvm.Cond.code ({ cls := "PersonSeeds$Persons", name := "add", desc := "(II)V" } : Jvm.MethodName) prog_3_method_2_code (5 : Nat) (Option.none : Option Jvm.ClassFile.FieldType)) ∈ lw_tbl := tw_of 326 (by decide +kernel)
theorem tw_327 : (Jvm.Cond.methodLink "PersonSeedsLaw" (87 : Nat) ({ cls := "PersonSeedsLaw", name := "draw", desc := "(LPersonSeeds;III[J)I" } : Jvm.MethodName)) ∈ lw_tbl := tw_of 327 (by decide +kernel)
theorem tw_328 : (Jvm.Cond.static ({ cls := "PersonSeedsLaw", name := "draw", desc := "(LPersonSeeds;III[J)I" } : Jvm.MethodName)) ∈ lw_tbl := tw_of 328 (by decide +kernel)
theorem tw_329 : (Jvm.Cond.codeWith ({ cls := "PersonSeedsLaw", name := "draw", desc := "(LPersonSeeds;III[J)I" } : Jvm.MethodName) method_6_code (6 : Nat) (Option.some Jvm.ClassFile.FieldType.int) [((0 : Nat), (12 : Nat), (15 : Nat), (13 : Nat))]) ∈ lw_tbl := tw_of 329 (by decide +kernel)
theorem tw_330 : (Jvm.Cond.methodLink "PersonSeedsLaw" (25 : Nat) ({ cls := "PersonSeeds", name := "draw", desc := "(III)I" } : Jvm.MethodName)) ∈ lw_tbl := tw_of 330 (by decide +kernel)
theorem tw_331 : (Jvm.Cond.instanceMethod ({ cls := "PersonSeeds", name := "draw", desc := "(III)I" } : Jvm.MethodName)) ∈ lw_tbl := tw_of 331 (by decide +kernel)
theorem tw_332 : (Jvm.Cond.selects "PersonSeeds" ({ cls := "PersonSeeds", name := "draw", desc := "(III)I" } : Jvm.MethodName) ({ cls := "PersonSeeds", name := "draw", desc := "(III)I" } : Jvm.MethodName)) ∈ lw_tbl := tw_of 332 (by decide +kernel)
theorem tw_333 : (Jvm.Cond.code ({ cls := "PersonSeeds", name := "draw", desc := "(III)I" } : Jvm.MethodName) prog_1_method_5_code (4 : Nat) (Option.some Jvm.ClassFile.FieldType.int)) ∈ lw_tbl := tw_of 333 (by decide +kernel)
theorem tw_334 : (Jvm.Cond.constant "PersonSeeds" (76 : Nat) (1000000 : Int32)) ∈ lw_tbl := tw_of 334 (by decide +kernel)
theorem tw_335 : (Jvm.Cond.methodLinkNest "PersonSeeds" (77 : Nat) ({ cls := "PersonSeeds$Persons", name := "drawn", desc := "(III)I" } : Jvm.MethodName) "PersonSeeds") ∈ lw_tbl := tw_of 335 (by decide +kernel)
theorem tw_336 : (Jvm.Cond.methodLink "PersonSeedsLaw" (90 : Nat) ({ cls := "PersonSeedsLaw", name := "run", desc := "(LPersonSeeds;I[J)I" } : Jvm.MethodName)) ∈ lw_tbl := tw_of 336 (by decide +kernel)
theorem tw_337 : (Jvm.Cond.static ({ cls := "PersonSeedsLaw", name := "run", desc := "(LPersonSeeds;I[J)I" } : Jvm.MethodName)) ∈ lw_tbl := tw_of 337 (by decide +kernel)
theorem tw_338 : (Jvm.Cond.codeWith ({ cls := "PersonSeedsLaw", name := "run", desc := "(LPersonSeeds;I[J)I" } : Jvm.MethodName) method_7_code (4 : Nat) (Option.some Jvm.ClassFile.FieldType.int) [((0 : Nat), (9 : Nat), (12 : Nat), (13 : Nat)), ((0 : Nat), (9 : Nat), (15 : Nat), (15 : Nat))]) ∈ lw_tbl := tw_of 338 (by decide +kernel)
theorem tw_339 : (Jvm.Cond.methodLink "PersonSeedsLaw" (28 : Nat) ({ cls := "PersonSeeds", name := "run", desc := "(I)I" } : Jvm.MethodName)) ∈ lw_tbl := tw_of 339 (by decide +kernel)
theorem tw_340 : (Jvm.Cond.instanceMethod ({ cls := "PersonSeeds", name := "run", desc := "(I)I" } : Jvm.MethodName)) ∈ lw_tbl := tw_of 340 (by decide +kernel)
theorem tw_341 : (Jvm.Cond.selects "PersonSeeds" ({ cls := "PersonSeeds", name := "run", desc := "(I)I" } : Jvm.MethodName) ({ cls := "PersonSeeds", name := "run", desc := "(I)I" } : Jvm.MethodName)) ∈ lw_tbl := tw_of 341 (by decide +kernel)
theorem tw_342 : (Jvm.Cond.code ({ cls := "PersonSeeds", name := "run", desc := "(I)I" } : Jvm.MethodName) prog_1_method_6_code (3 : Nat) (Option.some Jvm.ClassFile.FieldType.int)) ∈ lw_tbl := tw_of 342 (by decide +kernel)
theorem tw_343 : (Jvm.Cond.methodLink "PersonSeeds" (80 : Nat) ({ cls := "PersonSeeds", name := "passMinute", desc := "()V" } : Jvm.MethodName)) ∈ lw_tbl := tw_of 343 (by decide +kernel)
theorem tw_344 : (Jvm.Cond.privateMethod ({ cls := "PersonSeeds", name := "passMinute", desc := "()V" } : Jvm.MethodName)) ∈ lw_tbl := tw_of 344 (by decide +kernel)
theorem tw_345 : (Jvm.Cond.instanceMethod ({ cls := "PersonSeeds", name := "passMinute", desc := "()V" } : Jvm.MethodName)) ∈ lw_tbl := tw_of 345 (by decide +kernel)
theorem tw_346 : (Jvm.Cond.code ({ cls := "PersonSeeds", name := "passMinute", desc := "()V" } : Jvm.MethodName) prog_1_method_23_code (2 : Nat) (Option.none : Option Jvm.ClassFile.FieldType)) ∈ lw_tbl := tw_of 346 (by decide +kernel)
theorem tw_347 : (Jvm.Cond.methodLinkNest "PersonSeeds" (167 : Nat) ({ cls := "PersonSeeds$Doors", name := "beginMinute", desc := "()V" } : Jvm.MethodName) "PersonSeeds") ∈ lw_tbl := tw_of 347 (by decide +kernel)
theorem tw_348 : (Jvm.Cond.privateMethod ({ cls := "PersonSeeds$Doors", name := "beginMinute", desc := "()V" } : Jvm.MethodName)) ∈ lw_tbl := tw_of 348 (by decide +kernel)
theorem tw_349 : (Jvm.Cond.instanceMethod ({ cls := "PersonSeeds$Doors", name := "beginMinute", desc := "()V" } : Jvm.MethodName)) ∈ lw_tbl := tw_of 349 (by decide +kernel)
theorem tw_350 : (Jvm.Cond.code ({ cls := "PersonSeeds$Doors", name := "beginMinute", desc := "()V" } : Jvm.MethodName) prog_2_method_7_code (1 : Nat) (Option.none : Option Jvm.ClassFile.FieldType)) ∈ lw_tbl := tw_of 350 (by decide +kernel)
theorem tw_351 : (Jvm.Cond.methodLink "PersonSeeds" (170 : Nat) ({ cls := "PersonSeeds", name := "tryStep", desc := "(I)V" } : Jvm.MethodName)) ∈ lw_tbl := tw_of 351 (by decide +kernel)
theorem tw_352 : (Jvm.Cond.privateMethod ({ cls := "PersonSeeds", name := "tryStep", desc := "(I)V" } : Jvm.MethodName)) ∈ lw_tbl := tw_of 352 (by decide +kernel)
theorem tw_353 : (Jvm.Cond.instanceMethod ({ cls := "PersonSeeds", name := "tryStep", desc := "(I)V" } : Jvm.MethodName)) ∈ lw_tbl := tw_of 353 (by decide +kernel)
theorem tw_354 : (Jvm.Cond.code ({ cls := "PersonSeeds", name := "tryStep", desc := "(I)V" } : Jvm.MethodName) prog_1_method_24_code (4 : Nat) (Option.none : Option Jvm.ClassFile.FieldType)) ∈ lw_tbl := tw_of 354 (by decide +kernel)
theorem tw_355 : (Jvm.Cond.methodLinkNest "PersonSeeds" (111 : Nat) ({ cls := "PersonSeeds$Trails", name := "placeNow", desc := "(I)I" } : Jvm.MethodName) "PersonSeeds") ∈ lw_tbl := tw_of 355 (by decide +kernel)
theorem tw_356 : (Jvm.Cond.privateMethod ({ cls := "PersonSeeds$Trails", name := "placeNow", desc := "(I)I" } : Jvm.MethodName)) ∈ lw_tbl := tw_of 356 (by decide +kernel)
theorem tw_357 : (Jvm.Cond.instanceMethod ({ cls := "PersonSeeds$Trails", name := "placeNow", desc := "(I)I" } : Jvm.MethodName)) ∈ lw_tbl := tw_of 357 (by decide +kernel)
theorem tw_358 : (Jvm.Cond.code ({ cls := "PersonSeeds$Trails", name := "placeNow", desc := "(I)I" } : Jvm.MethodName) prog_5_method_3_code (2 : Nat) (Option.some Jvm.ClassFile.FieldType.int)) ∈ lw_tbl := tw_of 358 (by decide +kernel)
theorem tw_359 : (Jvm.Cond.methodLinkNest "PersonSeeds" (176 : Nat) ({ cls := "PersonSeeds$Persons", name := "wants", desc := "(II)I" } : Jvm.MethodName) "PersonSeeds") ∈ lw_tbl := tw_of 359 (by decide +kernel)
theorem tw_360 : (Jvm.Cond.privateMethod ({ cls := "PersonSeeds$Persons", name := "wants", desc := "(II)I" } : Jvm.MethodName)) ∈ lw_tbl := tw_of 360 (by decide +kernel)
theorem tw_361 : (Jvm.Cond.instanceMethod ({ cls := "PersonSeeds$Persons", name := "wants", desc := "(II)I" } : Jvm.MethodName)) ∈ lw_tbl := tw_of 361 (by decide +kernel)
theorem tw_362 : (Jvm.Cond.code ({ cls := "PersonSeeds$Persons", name := "wants", desc := "(II)I" } : Jvm.MethodName) prog_3_method_5_code (3 : Nat) (Option.some Jvm.ClassFile.FieldType.int)) ∈ lw_tbl := tw_of 362 (by decide +kernel)
theorem tw_363 : (Jvm.Cond.methodLink "PersonSeeds" (179 : Nat) ({ cls := "PersonSeeds", name := "tryEntrance", desc := "(I)V" } : Jvm.MethodName)) ∈ lw_tbl := tw_of 363 (by decide +kernel)
theorem tw_364 : (Jvm.Cond.privateMethod ({ cls := "PersonSeeds", name := "tryEntrance", desc := "(I)V" } : Jvm.MethodName)) ∈ lw_tbl := tw_of 364 (by decide +kernel)
theorem tw_365 : (Jvm.Cond.instanceMethod ({ cls := "PersonSeeds", name := "tryEntrance", desc := "(I)V" } : Jvm.MethodName)) ∈ lw_tbl := tw_of 365 (by decide +kernel)
theorem tw_366 : (Jvm.Cond.code ({ cls := "PersonSeeds", name := "tryEntrance", desc := "(I)V" } : Jvm.MethodName) prog_1_method_25_code (2 : Nat) (Option.none : Option Jvm.ClassFile.FieldType)) ∈ lw_tbl := tw_of 366 (by decide +kernel)
theorem tw_367 : (Jvm.Cond.methodLinkNest "PersonSeeds" (188 : Nat) ({ cls := "PersonSeeds$Rooms", name := "hasSpace", desc := "(I)Z" } : Jvm.MethodName) "PersonSeeds") ∈ lw_tbl := tw_of 367 (by decide +kernel)
theorem tw_368 : (Jvm.Cond.privateMethod ({ cls := "PersonSeeds$Rooms", name := "hasSpace", desc := "(I)Z" } : Jvm.MethodName)) ∈ lw_tbl := tw_of 368 (by decide +kernel)
theorem tw_369 : (Jvm.Cond.instanceMethod ({ cls := "PersonSeeds$Rooms", name := "hasSpace", desc := "(I)Z" } : Jvm.MethodName)) ∈ lw_tbl := tw_of 369 (by decide +kernel)
theorem tw_370 : (Jvm.Cond.code ({ cls := "PersonSeeds$Rooms", name := "hasSpace", desc := "(I)Z" } : Jvm.MethodName) prog_4_method_3_code (2 : Nat) (Option.some Jvm.ClassFile.FieldType.boolean)) ∈ lw_tbl := tw_of 370 (by decide +kernel)
theorem tw_371 : (Jvm.Cond.methodLinkNest "PersonSeeds" (192 : Nat) ({ cls := "PersonSeeds$Trails", name := "add", desc := "(III)V" } : Jvm.MethodName) "PersonSeeds") ∈ lw_tbl := tw_of 371 (by decide +kernel)
theorem tw_372 : (Jvm.Cond.privateMethod ({ cls := "PersonSeeds$Trails", name := "add", desc := "(III)V" } : Jvm.MethodName)) ∈ lw_tbl := tw_of 372 (by decide +kernel)
theorem tw_373 : (Jvm.Cond.instanceMethod ({ cls := "PersonSeeds$Trails", name := "add", desc := "(III)V" } : Jvm.MethodName)) ∈ lw_tbl := tw_of 373 (by decide +kernel)
theorem tw_374 : (Jvm.Cond.code ({ cls := "PersonSeeds$Trails", name := "add", desc := "(III)V" } : Jvm.MethodName) prog_5_method_2_code (5 : Nat) (Option.none : Option Jvm.ClassFile.FieldType)) ∈ lw_tbl := tw_of 374 (by decide +kernel)
theorem tw_375 : (Jvm.Cond.methodLink "PersonSeeds" (182 : Nat) ({ cls := "PersonSeeds", name := "tryDoor", desc := "(III)V" } : Jvm.MethodName)) ∈ lw_tbl := tw_of 375 (by decide +kernel)
theorem tw_376 : (Jvm.Cond.privateMethod ({ cls := "PersonSeeds", name := "tryDoor", desc := "(III)V" } : Jvm.MethodName)) ∈ lw_tbl := tw_of 376 (by decide +kernel)
theorem tw_377 : (Jvm.Cond.instanceMethod ({ cls := "PersonSeeds", name := "tryDoor", desc := "(III)V" } : Jvm.MethodName)) ∈ lw_tbl := tw_of 377 (by decide +kernel)
theorem tw_378 : (Jvm.Cond.code ({ cls := "PersonSeeds", name := "tryDoor", desc := "(III)V" } : Jvm.MethodName) prog_1_method_27_code (6 : Nat) (Option.none : Option Jvm.ClassFile.FieldType)) ∈ lw_tbl := tw_of 378 (by decide +kernel)
theorem tw_379 : (Jvm.Cond.methodLinkNest "PersonSeeds" (194 : Nat) ({ cls := "PersonSeeds$Doors", name := "towards", desc := "(II)I" } : Jvm.MethodName) "PersonSeeds") ∈ lw_tbl := tw_of 379 (by decide +kernel)
theorem tw_380 : (Jvm.Cond.privateMethod ({ cls := "PersonSeeds$Doors", name := "towards", desc := "(II)I" } : Jvm.MethodName)) ∈ lw_tbl := tw_of 380 (by decide +kernel)
theorem tw_381 : (Jvm.Cond.instanceMethod ({ cls := "PersonSeeds$Doors", name := "towards", desc := "(II)I" } : Jvm.MethodName)) ∈ lw_tbl := tw_of 381 (by decide +kernel)
theorem tw_382 : (Jvm.Cond.code ({ cls := "PersonSeeds$Doors", name := "towards", desc := "(II)I" } : Jvm.MethodName) prog_2_method_6_code (6 : Nat) (Option.some Jvm.ClassFile.FieldType.int)) ∈ lw_tbl := tw_of 382 (by decide +kernel)
theorem tw_383 : (Jvm.Cond.methodLink "PersonSeeds$Doors" (56 : Nat) ({ cls := "PersonSeeds$Doors", name := "behind", desc := "(II)I" } : Jvm.MethodName)) ∈ lw_tbl := tw_of 383 (by decide +kernel)
theorem tw_384 : (Jvm.Cond.privateMethod ({ cls := "PersonSeeds$Doors", name := "behind", desc := "(II)I" } : Jvm.MethodName)) ∈ lw_tbl := tw_of 384 (by decide +kernel)
theorem tw_385 : (Jvm.Cond.instanceMethod ({ cls := "PersonSeeds$Doors", name := "behind", desc := "(II)I" } : Jvm.MethodName)) ∈ lw_tbl := tw_of 385 (by decide +kernel)
theorem tw_386 : (Jvm.Cond.code ({ cls := "PersonSeeds$Doors", name := "behind", desc := "(II)I" } : Jvm.MethodName) prog_2_method_5_code (3 : Nat) (Option.some Jvm.ClassFile.FieldType.int)) ∈ lw_tbl := tw_of 386 (by decide +kernel)
theorem tw_387 : (Jvm.Cond.methodLinkNest "PersonSeeds" (197 : Nat) ({ cls := "PersonSeeds$Doors", name := "behind", desc := "(II)I" } : Jvm.MethodName) "PersonSeeds") ∈ lw_tbl := tw_of 387 (by decide +kernel)
theorem tw_388 : (Jvm.Cond.methodLinkNest "PersonSeeds" (200 : Nat) ({ cls := "PersonSeeds$Doors", name := "isFree", desc := "(I)Z" } : Jvm.MethodName) "PersonSeeds") ∈ lw_tbl := tw_of 388 (by decide +kernel)
theorem tw_389 : (Jvm.Cond.privateMethod ({ cls := "PersonSeeds$Doors", name := "isFree", desc := "(I)Z" } : Jvm.MethodName)) ∈ lw_tbl := tw_of 389 (by decide +kernel)
theorem tw_390 : (Jvm.Cond.instanceMethod ({ cls := "PersonSeeds$Doors", name := "isFree", desc := "(I)Z" } : Jvm.MethodName)) ∈ lw_tbl := tw_of 390 (by decide +kernel)
theorem tw_391 : (Jvm.Cond.code ({ cls := "PersonSeeds$Doors", name := "isFree", desc := "(I)Z" } : Jvm.MethodName) prog_2_method_8_code (2 : Nat) (Option.some Jvm.ClassFile.FieldType.boolean)) ∈ lw_tbl := tw_of 391 (by decide +kernel)
theorem tw_392 : (Jvm.Cond.methodLinkNest "PersonSeeds" (203 : Nat) ({ cls := "PersonSeeds$Doors", name := "pass", desc := "(II)V" } : Jvm.MethodName) "PersonSeeds") ∈ lw_tbl := tw_of 392 (by decide +kernel)
theorem tw_393 : (Jvm.Cond.privateMethod ({ cls := "PersonSeeds$Doors", name := "pass", desc := "(II)V" } : Jvm.MethodName)) ∈ lw_tbl := tw_of 393 (by decide +kernel)
theorem tw_394 : (Jvm.Cond.instanceMethod ({ cls := "PersonSeeds$Doors", name := "pass", desc := "(II)V" } : Jvm.MethodName)) ∈ lw_tbl := tw_of 394 (by decide +kernel)
theorem tw_395 : (Jvm.Cond.code ({ cls := "PersonSeeds$Doors", name := "pass", desc := "(II)V" } : Jvm.MethodName) prog_2_method_9_code (3 : Nat) (Option.none : Option Jvm.ClassFile.FieldType)) ∈ lw_tbl := tw_of 395 (by decide +kernel)
theorem tw_396 : (Jvm.Cond.methodLink "PersonSeeds" (185 : Nat) ({ cls := "PersonSeeds", name := "goOut", desc := "(I)V" } : Jvm.MethodName)) ∈ lw_tbl := tw_of 396 (by decide +kernel)
theorem tw_397 : (Jvm.Cond.privateMethod ({ cls := "PersonSeeds", name := "goOut", desc := "(I)V" } : Jvm.MethodName)) ∈ lw_tbl := tw_of 397 (by decide +kernel)
theorem tw_398 : (Jvm.Cond.instanceMethod ({ cls := "PersonSeeds", name := "goOut", desc := "(I)V" } : Jvm.MethodName)) ∈ lw_tbl := tw_of 398 (by decide +kernel)
theorem tw_399 : (Jvm.Cond.code ({ cls := "PersonSeeds", name := "goOut", desc := "(I)V" } : Jvm.MethodName) prog_1_method_26_code (2 : Nat) (Option.none : Option Jvm.ClassFile.FieldType)) ∈ lw_tbl := tw_of 399 (by decide +kernel)
theorem tw_400 : (Jvm.Cond.methodLinkNest "PersonSeeds" (173 : Nat) ({ cls := "PersonSeeds$Rooms", name := "endMinute", desc := "()V" } : Jvm.MethodName) "PersonSeeds") ∈ lw_tbl := tw_of 400 (by decide +kernel)
theorem tw_401 : (Jvm.Cond.privateMethod ({ cls := "PersonSeeds$Rooms", name := "endMinute", desc := "()V" } : Jvm.MethodName)) ∈ lw_tbl := tw_of 401 (by decide +kernel)
theorem tw_402 : (Jvm.Cond.instanceMethod ({ cls := "PersonSeeds$Rooms", name := "endMinute", desc := "()V" } : Jvm.MethodName)) ∈ lw_tbl := tw_of 402 (by decide +kernel)
theorem tw_403 : (Jvm.Cond.code ({ cls := "PersonSeeds$Rooms", name := "endMinute", desc := "()V" } : Jvm.MethodName) prog_4_method_4_code (2 : Nat) (Option.none : Option Jvm.ClassFile.FieldType)) ∈ lw_tbl := tw_of 403 (by decide +kernel)
theorem tw_404 : (Jvm.Cond.methodLink "PersonSeeds$Rooms" (28 : Nat) ({ cls := "java/lang/Math", name := "max", desc := "(II)I" } : Jvm.MethodName)) ∈ lw_tbl := tw_of 404 (by decide +kernel)
theorem tw_405 : (Jvm.Cond.static ({ cls := "java/lang/Math", name := "max", desc := "(II)I" } : Jvm.MethodName)) ∈ lw_tbl := tw_of 405 (by decide +kernel)
theorem tw_406 : (Jvm.Cond.code ({ cls := "java/lang/Math", name := "max", desc := "(II)I" } : Jvm.MethodName) prog_11_method_65_code (2 : Nat) (Option.some Jvm.ClassFile.FieldType.int)) ∈ lw_tbl := tw_of 406 (by decide +kernel)
theorem tw_407 : (Jvm.Cond.methodLink "PersonSeeds$Rooms" (34 : Nat) ({ cls := "PersonSeeds$Rooms", name := "hasSpace", desc := "(I)Z" } : Jvm.MethodName)) ∈ lw_tbl := tw_of 407 (by decide +kernel)
theorem tw_408 : (Jvm.Cond.methodLink "PersonSeedsLaw" (93 : Nat) ({ cls := "PersonSeedsLaw", name := "person", desc := "(LPersonSeeds;II[J)I" } : Jvm.MethodName)) ∈ lw_tbl := tw_of 408 (by decide +kernel)
theorem tw_409 : (Jvm.Cond.static ({ cls := "PersonSeedsLaw", name := "person", desc := "(LPersonSeeds;II[J)I" } : Jvm.MethodName)) ∈ lw_tbl := tw_of 409 (by decide +kernel)
theorem tw_410 : (Jvm.Cond.codeWith ({ cls := "PersonSeedsLaw", name := "person", desc := "(LPersonSeeds;II[J)I" } : Jvm.MethodName) method_8_code (5 : Nat) (Option.some Jvm.ClassFile.FieldType.int) [((0 : Nat), (10 : Nat), (13 : Nat), (13 : Nat))]) ∈ lw_tbl := tw_of 410 (by decide +kernel)
theorem tw_411 : (Jvm.Cond.methodLink "PersonSeedsLaw" (31 : Nat) ({ cls := "PersonSeeds", name := "person", desc := "(II)I" } : Jvm.MethodName)) ∈ lw_tbl := tw_of 411 (by decide +kernel)
theorem tw_412 : (Jvm.Cond.instanceMethod ({ cls := "PersonSeeds", name := "person", desc := "(II)I" } : Jvm.MethodName)) ∈ lw_tbl := tw_of 412 (by decide +kernel)
theorem tw_413 : (Jvm.Cond.selects "PersonSeeds" ({ cls := "PersonSeeds", name := "person", desc := "(II)I" } : Jvm.MethodName) ({ cls := "PersonSeeds", name := "person", desc := "(II)I" } : Jvm.MethodName)) ∈ lw_tbl := tw_of 413 (by decide +kernel)
theorem tw_414 : (Jvm.Cond.code ({ cls := "PersonSeeds", name := "person", desc := "(II)I" } : Jvm.MethodName) prog_1_method_7_code (3 : Nat) (Option.some Jvm.ClassFile.FieldType.int)) ∈ lw_tbl := tw_of 414 (by decide +kernel)
theorem tw_415 : (Jvm.Cond.methodLink "PersonSeeds" (89 : Nat) ({ cls := "PersonSeeds", name := "checkPerson", desc := "(I)V" } : Jvm.MethodName)) ∈ lw_tbl := tw_of 415 (by decide +kernel)
theorem tw_416 : (Jvm.Cond.privateMethod ({ cls := "PersonSeeds", name := "checkPerson", desc := "(I)V" } : Jvm.MethodName)) ∈ lw_tbl := tw_of 416 (by decide +kernel)
theorem tw_417 : (Jvm.Cond.instanceMethod ({ cls := "PersonSeeds", name := "checkPerson", desc := "(I)V" } : Jvm.MethodName)) ∈ lw_tbl := tw_of 417 (by decide +kernel)
theorem tw_418 : (Jvm.Cond.code ({ cls := "PersonSeeds", name := "checkPerson", desc := "(I)V" } : Jvm.MethodName) prog_1_method_18_code (2 : Nat) (Option.none : Option Jvm.ClassFile.FieldType)) ∈ lw_tbl := tw_of 418 (by decide +kernel)
theorem tw_419 : (Jvm.Cond.methodLink "PersonSeedsLaw" (96 : Nat) ({ cls := "PersonSeedsLaw", name := "at", desc := "(LPersonSeeds;I[J)I" } : Jvm.MethodName)) ∈ lw_tbl := tw_of 419 (by decide +kernel)
theorem tw_420 : (Jvm.Cond.static ({ cls := "PersonSeedsLaw", name := "at", desc := "(LPersonSeeds;I[J)I" } : Jvm.MethodName)) ∈ lw_tbl := tw_of 420 (by decide +kernel)
theorem tw_421 : (Jvm.Cond.codeWith ({ cls := "PersonSeedsLaw", name := "at", desc := "(LPersonSeeds;I[J)I" } : Jvm.MethodName) method_9_code (4 : Nat) (Option.some Jvm.ClassFile.FieldType.int) [((0 : Nat), (9 : Nat), (12 : Nat), (13 : Nat))]) ∈ lw_tbl := tw_of 421 (by decide +kernel)
theorem tw_422 : (Jvm.Cond.methodLink "PersonSeedsLaw" (34 : Nat) ({ cls := "PersonSeeds", name := "at", desc := "(I)I" } : Jvm.MethodName)) ∈ lw_tbl := tw_of 422 (by decide +kernel)
theorem tw_423 : (Jvm.Cond.instanceMethod ({ cls := "PersonSeeds", name := "at", desc := "(I)I" } : Jvm.MethodName)) ∈ lw_tbl := tw_of 423 (by decide +kernel)
theorem tw_424 : (Jvm.Cond.selects "PersonSeeds" ({ cls := "PersonSeeds", name := "at", desc := "(I)I" } : Jvm.MethodName) ({ cls := "PersonSeeds", name := "at", desc := "(I)I" } : Jvm.MethodName)) ∈ lw_tbl := tw_of 424 (by decide +kernel)
theorem tw_425 : (Jvm.Cond.code ({ cls := "PersonSeeds", name := "at", desc := "(I)I" } : Jvm.MethodName) prog_1_method_8_code (2 : Nat) (Option.some Jvm.ClassFile.FieldType.int)) ∈ lw_tbl := tw_of 425 (by decide +kernel)
theorem tw_426 : (Jvm.Cond.methodLink "PersonSeedsLaw" (99 : Nat) ({ cls := "PersonSeedsLaw", name := "was", desc := "(LPersonSeeds;II[J)I" } : Jvm.MethodName)) ∈ lw_tbl := tw_of 426 (by decide +kernel)
theorem tw_427 : (Jvm.Cond.static ({ cls := "PersonSeedsLaw", name := "was", desc := "(LPersonSeeds;II[J)I" } : Jvm.MethodName)) ∈ lw_tbl := tw_of 427 (by decide +kernel)
theorem tw_428 : (Jvm.Cond.codeWith ({ cls := "PersonSeedsLaw", name := "was", desc := "(LPersonSeeds;II[J)I" } : Jvm.MethodName) method_10_code (5 : Nat) (Option.some Jvm.ClassFile.FieldType.int) [((0 : Nat), (10 : Nat), (13 : Nat), (13 : Nat))]) ∈ lw_tbl := tw_of 428 (by decide +kernel)
theorem tw_429 : (Jvm.Cond.methodLink "PersonSeedsLaw" (37 : Nat) ({ cls := "PersonSeeds", name := "was", desc := "(II)I" } : Jvm.MethodName)) ∈ lw_tbl := tw_of 429 (by decide +kernel)
theorem tw_430 : (Jvm.Cond.instanceMethod ({ cls := "PersonSeeds", name := "was", desc := "(II)I" } : Jvm.MethodName)) ∈ lw_tbl := tw_of 430 (by decide +kernel)
theorem tw_431 : (Jvm.Cond.selects "PersonSeeds" ({ cls := "PersonSeeds", name := "was", desc := "(II)I" } : Jvm.MethodName) ({ cls := "PersonSeeds", name := "was", desc := "(II)I" } : Jvm.MethodName)) ∈ lw_tbl := tw_of 431 (by decide +kernel)
theorem tw_432 : (Jvm.Cond.code ({ cls := "PersonSeeds", name := "was", desc := "(II)I" } : Jvm.MethodName) prog_1_method_9_code (3 : Nat) (Option.some Jvm.ClassFile.FieldType.int)) ∈ lw_tbl := tw_of 432 (by decide +kernel)
theorem tw_433 : (Jvm.Cond.methodLink "PersonSeeds" (114 : Nat) ({ cls := "PersonSeeds", name := "checkOver", desc := "(I)V" } : Jvm.MethodName)) ∈ lw_tbl := tw_of 433 (by decide +kernel)
theorem tw_434 : (Jvm.Cond.privateMethod ({ cls := "PersonSeeds", name := "checkOver", desc := "(I)V" } : Jvm.MethodName)) ∈ lw_tbl := tw_of 434 (by decide +kernel)
theorem tw_435 : (Jvm.Cond.instanceMethod ({ cls := "PersonSeeds", name := "checkOver", desc := "(I)V" } : Jvm.MethodName)) ∈ lw_tbl := tw_of 435 (by decide +kernel)
theorem tw_436 : (Jvm.Cond.code ({ cls := "PersonSeeds", name := "checkOver", desc := "(I)V" } : Jvm.MethodName) prog_1_method_19_code (2 : Nat) (Option.none : Option Jvm.ClassFile.FieldType)) ∈ lw_tbl := tw_of 436 (by decide +kernel)
theorem tw_437 : (Jvm.Cond.methodLinkNest "PersonSeeds" (117 : Nat) ({ cls := "PersonSeeds$Trails", name := "placeBehind", desc := "(II)I" } : Jvm.MethodName) "PersonSeeds") ∈ lw_tbl := tw_of 437 (by decide +kernel)
theorem tw_438 : (Jvm.Cond.privateMethod ({ cls := "PersonSeeds$Trails", name := "placeBehind", desc := "(II)I" } : Jvm.MethodName)) ∈ lw_tbl := tw_of 438 (by decide +kernel)
theorem tw_439 : (Jvm.Cond.instanceMethod ({ cls := "PersonSeeds$Trails", name := "placeBehind", desc := "(II)I" } : Jvm.MethodName)) ∈ lw_tbl := tw_of 439 (by decide +kernel)
theorem tw_440 : (Jvm.Cond.code ({ cls := "PersonSeeds$Trails", name := "placeBehind", desc := "(II)I" } : Jvm.MethodName) prog_5_method_4_code (4 : Nat) (Option.some Jvm.ClassFile.FieldType.int)) ∈ lw_tbl := tw_of 440 (by decide +kernel)
theorem tw_441 : (Jvm.Cond.methodLink "PersonSeedsLaw" (102 : Nat) ({ cls := "PersonSeedsLaw", name := "waited", desc := "(LPersonSeeds;I[J)I" } : Jvm.MethodName)) ∈ lw_tbl := tw_of 441 (by decide +kernel)
theorem tw_442 : (Jvm.Cond.static ({ cls := "PersonSeedsLaw", name := "waited", desc := "(LPersonSeeds;I[J)I" } : Jvm.MethodName)) ∈ lw_tbl := tw_of 442 (by decide +kernel)
theorem tw_443 : (Jvm.Cond.codeWith ({ cls := "PersonSeedsLaw", name := "waited", desc := "(LPersonSeeds;I[J)I" } : Jvm.MethodName) method_11_code (4 : Nat) (Option.some Jvm.ClassFile.FieldType.int) [((0 : Nat), (9 : Nat), (12 : Nat), (13 : Nat))]) ∈ lw_tbl := tw_of 443 (by decide +kernel)
theorem tw_444 : (Jvm.Cond.methodLink "PersonSeedsLaw" (40 : Nat) ({ cls := "PersonSeeds", name := "waited", desc := "(I)I" } : Jvm.MethodName)) ∈ lw_tbl := tw_of 444 (by decide +kernel)
theorem tw_445 : (Jvm.Cond.instanceMethod ({ cls := "PersonSeeds", name := "waited", desc := "(I)I" } : Jvm.MethodName)) ∈ lw_tbl := tw_of 445 (by decide +kernel)
theorem tw_446 : (Jvm.Cond.selects "PersonSeeds" ({ cls := "PersonSeeds", name := "waited", desc := "(I)I" } : Jvm.MethodName) ({ cls := "PersonSeeds", name := "waited", desc := "(I)I" } : Jvm.MethodName)) ∈ lw_tbl := tw_of 446 (by decide +kernel)
theorem tw_447 : (Jvm.Cond.code ({ cls := "PersonSeeds", name := "waited", desc := "(I)I" } : Jvm.MethodName) prog_1_method_10_code (2 : Nat) (Option.some Jvm.ClassFile.FieldType.int)) ∈ lw_tbl := tw_of 447 (by decide +kernel)
theorem tw_448 : (Jvm.Cond.methodLink "PersonSeedsLaw" (105 : Nat) ({ cls := "PersonSeedsLaw", name := "in", desc := "(LPersonSeeds;II[J)I" } : Jvm.MethodName)) ∈ lw_tbl := tw_of 448 (by decide +kernel)
theorem tw_449 : (Jvm.Cond.static ({ cls := "PersonSeedsLaw", name := "in", desc := "(LPersonSeeds;II[J)I" } : Jvm.MethodName)) ∈ lw_tbl := tw_of 449 (by decide +kernel)
theorem tw_450 : (Jvm.Cond.codeWith ({ cls := "PersonSeedsLaw", name := "in", desc := "(LPersonSeeds;II[J)I" } : Jvm.MethodName) method_12_code (5 : Nat) (Option.some Jvm.ClassFile.FieldType.int) [((0 : Nat), (10 : Nat), (13 : Nat), (13 : Nat))]) ∈ lw_tbl := tw_of 450 (by decide +kernel)
theorem tw_451 : (Jvm.Cond.methodLink "PersonSeedsLaw" (43 : Nat) ({ cls := "PersonSeeds", name := "in", desc := "(II)I" } : Jvm.MethodName)) ∈ lw_tbl := tw_of 451 (by decide +kernel)
theorem tw_452 : (Jvm.Cond.instanceMethod ({ cls := "PersonSeeds", name := "in", desc := "(II)I" } : Jvm.MethodName)) ∈ lw_tbl := tw_of 452 (by decide +kernel)
theorem tw_453 : (Jvm.Cond.selects "PersonSeeds" ({ cls := "PersonSeeds", name := "in", desc := "(II)I" } : Jvm.MethodName) ({ cls := "PersonSeeds", name := "in", desc := "(II)I" } : Jvm.MethodName)) ∈ lw_tbl := tw_of 453 (by decide +kernel)
theorem tw_454 : (Jvm.Cond.code ({ cls := "PersonSeeds", name := "in", desc := "(II)I" } : Jvm.MethodName) prog_1_method_11_code (3 : Nat) (Option.some Jvm.ClassFile.FieldType.int)) ∈ lw_tbl := tw_of 454 (by decide +kernel)
theorem tw_455 : (Jvm.Cond.methodLink "PersonSeedsLaw" (108 : Nat) ({ cls := "PersonSeedsLaw", name := "inThen", desc := "(LPersonSeeds;II[J)I" } : Jvm.MethodName)) ∈ lw_tbl := tw_of 455 (by decide +kernel)
theorem tw_456 : (Jvm.Cond.static ({ cls := "PersonSeedsLaw", name := "inThen", desc := "(LPersonSeeds;II[J)I" } : Jvm.MethodName)) ∈ lw_tbl := tw_of 456 (by decide +kernel)
theorem tw_457 : (Jvm.Cond.codeWith ({ cls := "PersonSeedsLaw", name := "inThen", desc := "(LPersonSeeds;II[J)I" } : Jvm.MethodName) method_13_code (5 : Nat) (Option.some Jvm.ClassFile.FieldType.int) [((0 : Nat), (10 : Nat), (13 : Nat), (13 : Nat))]) ∈ lw_tbl := tw_of 457 (by decide +kernel)
theorem tw_458 : (Jvm.Cond.methodLink "PersonSeedsLaw" (46 : Nat) ({ cls := "PersonSeeds", name := "inThen", desc := "(II)I" } : Jvm.MethodName)) ∈ lw_tbl := tw_of 458 (by decide +kernel)
theorem tw_459 : (Jvm.Cond.instanceMethod ({ cls := "PersonSeeds", name := "inThen", desc := "(II)I" } : Jvm.MethodName)) ∈ lw_tbl := tw_of 459 (by decide +kernel)
theorem tw_460 : (Jvm.Cond.selects "PersonSeeds" ({ cls := "PersonSeeds", name := "inThen", desc := "(II)I" } : Jvm.MethodName) ({ cls := "PersonSeeds", name := "inThen", desc := "(II)I" } : Jvm.MethodName)) ∈ lw_tbl := tw_of 460 (by decide +kernel)
theorem tw_461 : (Jvm.Cond.code ({ cls := "PersonSeeds", name := "inThen", desc := "(II)I" } : Jvm.MethodName) prog_1_method_12_code (5 : Nat) (Option.some Jvm.ClassFile.FieldType.int)) ∈ lw_tbl := tw_of 461 (by decide +kernel)
theorem tw_462 : (Jvm.Cond.methodLink "PersonSeedsLaw" (111 : Nat) ({ cls := "PersonSeedsLaw", name := "through", desc := "(LPersonSeeds;IZ[J)I" } : Jvm.MethodName)) ∈ lw_tbl := tw_of 462 (by decide +kernel)
theorem tw_463 : (Jvm.Cond.static ({ cls := "PersonSeedsLaw", name := "through", desc := "(LPersonSeeds;IZ[J)I" } : Jvm.MethodName)) ∈ lw_tbl := tw_of 463 (by decide +kernel)
theorem tw_464 : (Jvm.Cond.codeWith ({ cls := "PersonSeedsLaw", name := "through", desc := "(LPersonSeeds;IZ[J)I" } : Jvm.MethodName) method_14_code (5 : Nat) (Option.some Jvm.ClassFile.FieldType.int) [((0 : Nat), (10 : Nat), (13 : Nat), (13 : Nat))]) ∈ lw_tbl := tw_of 464 (by decide +kernel)
theorem tw_465 : (Jvm.Cond.methodLink "PersonSeedsLaw" (49 : Nat) ({ cls := "PersonSeeds", name := "through", desc := "(IZ)I" } : Jvm.MethodName)) ∈ lw_tbl := tw_of 465 (by decide +kernel)
theorem tw_466 : (Jvm.Cond.instanceMethod ({ cls := "PersonSeeds", name := "through", desc := "(IZ)I" } : Jvm.MethodName)) ∈ lw_tbl := tw_of 466 (by decide +kernel)
theorem tw_467 : (Jvm.Cond.selects "PersonSeeds" ({ cls := "PersonSeeds", name := "through", desc := "(IZ)I" } : Jvm.MethodName) ({ cls := "PersonSeeds", name := "through", desc := "(IZ)I" } : Jvm.MethodName)) ∈ lw_tbl := tw_of 467 (by decide +kernel)
theorem tw_468 : (Jvm.Cond.code ({ cls := "PersonSeeds", name := "through", desc := "(IZ)I" } : Jvm.MethodName) prog_1_method_13_code (3 : Nat) (Option.some Jvm.ClassFile.FieldType.int)) ∈ lw_tbl := tw_of 468 (by decide +kernel)
theorem tw_469 : (Jvm.Cond.methodLink "PersonSeedsLaw" (115 : Nat) ({ cls := "PersonSeedsLaw", name := "distance", desc := "(LPersonSeeds;II[J)I" } : Jvm.MethodName)) ∈ lw_tbl := tw_of 469 (by decide +kernel)
theorem tw_470 : (Jvm.Cond.static ({ cls := "PersonSeedsLaw", name := "distance", desc := "(LPersonSeeds;II[J)I" } : Jvm.MethodName)) ∈ lw_tbl := tw_of 470 (by decide +kernel)
theorem tw_471 : (Jvm.Cond.codeWith ({ cls := "PersonSeedsLaw", name := "distance", desc := "(LPersonSeeds;II[J)I" } : Jvm.MethodName) method_15_code (5 : Nat) (Option.some Jvm.ClassFile.FieldType.int) [((0 : Nat), (10 : Nat), (13 : Nat), (13 : Nat))]) ∈ lw_tbl := tw_of 471 (by decide +kernel)
theorem tw_472 : (Jvm.Cond.methodLink "PersonSeedsLaw" (53 : Nat) ({ cls := "PersonSeeds", name := "distance", desc := "(II)I" } : Jvm.MethodName)) ∈ lw_tbl := tw_of 472 (by decide +kernel)
theorem tw_473 : (Jvm.Cond.instanceMethod ({ cls := "PersonSeeds", name := "distance", desc := "(II)I" } : Jvm.MethodName)) ∈ lw_tbl := tw_of 473 (by decide +kernel)
theorem tw_474 : (Jvm.Cond.selects "PersonSeeds" ({ cls := "PersonSeeds", name := "distance", desc := "(II)I" } : Jvm.MethodName) ({ cls := "PersonSeeds", name := "distance", desc := "(II)I" } : Jvm.MethodName)) ∈ lw_tbl := tw_of 474 (by decide +kernel)
theorem tw_475 : (Jvm.Cond.code ({ cls := "PersonSeeds", name := "distance", desc := "(II)I" } : Jvm.MethodName) prog_1_method_14_code (4 : Nat) (Option.some Jvm.ClassFile.FieldType.int)) ∈ lw_tbl := tw_of 475 (by decide +kernel)
theorem tw_476 : (Jvm.Cond.methodLinkNest "PersonSeeds" (139 : Nat) ({ cls := "PersonSeeds$Doors", name := "stepsBetween", desc := "(II)I" } : Jvm.MethodName) "PersonSeeds") ∈ lw_tbl := tw_of 476 (by decide +kernel)
theorem tw_477 : (Jvm.Cond.methodLink "PersonSeedsLaw" (118 : Nat) ({ cls := "PersonSeedsLaw", name := "met", desc := "(LPersonSeeds;II[J)I" } : Jvm.MethodName)) ∈ lw_tbl := tw_of 477 (by decide +kernel)
theorem tw_478 : (Jvm.Cond.static ({ cls := "PersonSeedsLaw", name := "met", desc := "(LPersonSeeds;II[J)I" } : Jvm.MethodName)) ∈ lw_tbl := tw_of 478 (by decide +kernel)
theorem tw_479 : (Jvm.Cond.codeWith ({ cls := "PersonSeedsLaw", name := "met", desc := "(LPersonSeeds;II[J)I" } : Jvm.MethodName) method_16_code (5 : Nat) (Option.some Jvm.ClassFile.FieldType.int) [((0 : Nat), (10 : Nat), (13 : Nat), (13 : Nat))]) ∈ lw_tbl := tw_of 479 (by decide +kernel)
theorem tw_480 : (Jvm.Cond.methodLink "PersonSeedsLaw" (56 : Nat) ({ cls := "PersonSeeds", name := "met", desc := "(II)I" } : Jvm.MethodName)) ∈ lw_tbl := tw_of 480 (by decide +kernel)
theorem tw_481 : (Jvm.Cond.instanceMethod ({ cls := "PersonSeeds", name := "met", desc := "(II)I" } : Jvm.MethodName)) ∈ lw_tbl := tw_of 481 (by decide +kernel)
theorem tw_482 : (Jvm.Cond.selects "PersonSeeds" ({ cls := "PersonSeeds", name := "met", desc := "(II)I" } : Jvm.MethodName) ({ cls := "PersonSeeds", name := "met", desc := "(II)I" } : Jvm.MethodName)) ∈ lw_tbl := tw_of 482 (by decide +kernel)
theorem tw_483 : (Jvm.Cond.code ({ cls := "PersonSeeds", name := "met", desc := "(II)I" } : Jvm.MethodName) prog_1_method_15_code (5 : Nat) (Option.some Jvm.ClassFile.FieldType.int)) ∈ lw_tbl := tw_of 483 (by decide +kernel)
theorem tw_484 : (Jvm.Cond.methodLinkNest "PersonSeeds" (142 : Nat) ({ cls := "PersonSeeds$Trails", name := "firstJoining", desc := "(II)I" } : Jvm.MethodName) "PersonSeeds") ∈ lw_tbl := tw_of 484 (by decide +kernel)
theorem tw_485 : (Jvm.Cond.privateMethod ({ cls := "PersonSeeds$Trails", name := "firstJoining", desc := "(II)I" } : Jvm.MethodName)) ∈ lw_tbl := tw_of 485 (by decide +kernel)
theorem tw_486 : (Jvm.Cond.instanceMethod ({ cls := "PersonSeeds$Trails", name := "firstJoining", desc := "(II)I" } : Jvm.MethodName)) ∈ lw_tbl := tw_of 486 (by decide +kernel)
theorem tw_487 : (Jvm.Cond.code ({ cls := "PersonSeeds$Trails", name := "firstJoining", desc := "(II)I" } : Jvm.MethodName) prog_5_method_5_code (6 : Nat) (Option.some Jvm.ClassFile.FieldType.int)) ∈ lw_tbl := tw_of 487 (by decide +kernel)
theorem tw_488 : (Jvm.Cond.methodLink "PersonSeeds$Trails" (21 : Nat) ({ cls := "PersonSeeds$Trails", name := "placeBehind", desc := "(II)I" } : Jvm.MethodName)) ∈ lw_tbl := tw_of 488 (by decide +kernel)
theorem tw_489 : (Jvm.Cond.methodLink "PersonSeeds" (145 : Nat) ({ cls := "java/lang/Math", name := "max", desc := "(II)I" } : Jvm.MethodName)) ∈ lw_tbl := tw_of 489 (by decide +kernel)
theorem tw_490 : (Jvm.Cond.methodLink "PersonSeeds" (150 : Nat) ({ cls := "java/lang/Math", name := "min", desc := "(II)I" } : Jvm.MethodName)) ∈ lw_tbl := tw_of 490 (by decide +kernel)
theorem tw_491 : (Jvm.Cond.classLink "PersonSeedsLaw" (68 : Nat) "PersonSeedsModel") ∈ lw_tbl := tw_of 491 (by decide +kernel)
theorem tw_492 : (Jvm.Cond.instantiable "PersonSeedsModel" (23 : Nat)) ∈ lw_tbl := tw_of 492 (by decide +kernel)
theorem tw_493 : (Jvm.Cond.methodLink "PersonSeedsLaw" (70 : Nat) ({ cls := "PersonSeedsModel", name := "<init>", desc := "(J)V" } : Jvm.MethodName)) ∈ lw_tbl := tw_of 493 (by decide +kernel)
theorem tw_494 : (Jvm.Cond.instanceMethod ({ cls := "PersonSeedsModel", name := "<init>", desc := "(J)V" } : Jvm.MethodName)) ∈ lw_tbl := tw_of 494 (by decide +kernel)
theorem tw_495 : (Jvm.Cond.code ({ cls := "PersonSeedsModel", name := "<init>", desc := "(J)V" } : Jvm.MethodName) prog_7_method_1_code (4 : Nat) (Option.none : Option Jvm.ClassFile.FieldType)) ∈ lw_tbl := tw_of 495 (by decide +kernel)
theorem tw_496 : (Jvm.Cond.methodLink "PersonSeedsModel" (1 : Nat) ({ cls := "java/lang/Object", name := "<init>", desc := "()V" } : Jvm.MethodName)) ∈ lw_tbl := tw_of 496 (by decide +kernel)
theorem tw_497 : (Jvm.Cond.constant "PersonSeedsModel" (52 : Nat) (120000 : Int32)) ∈ lw_tbl := tw_of 497 (by decide +kernel)
theorem tw_498 : (Jvm.Cond.fieldLink "PersonSeedsModel" (57 : Nat) "PersonSeedsModel" "seed" "J") ∈ lw_tbl := tw_of 498 (by decide +kernel)
theorem tw_499 : (Jvm.Cond.fieldLink "PersonSeedsModel" (61 : Nat) "PersonSeedsModel" "fault" "I") ∈ lw_tbl := tw_of 499 (by decide +kernel)
theorem tw_500 : (Jvm.Cond.fieldLink "PersonSeedsModel" (77 : Nat) "PersonSeedsModel" "minute" "I") ∈ lw_tbl := tw_of 500 (by decide +kernel)
theorem tw_501 : (Jvm.Cond.fieldLink "PersonSeedsModel" (65 : Nat) "PersonSeedsModel" "rooms" "I") ∈ lw_tbl := tw_of 501 (by decide +kernel)
theorem tw_502 : (Jvm.Cond.fieldLink "PersonSeedsModel" (7 : Nat) "PersonSeedsModel" "cells" "[I") ∈ lw_tbl := tw_of 502 (by decide +kernel)
theorem tw_503 : (Jvm.Cond.fieldLink "PersonSeedsModel" (13 : Nat) "PersonSeedsModel" "there" "[I") ∈ lw_tbl := tw_of 503 (by decide +kernel)
theorem tw_504 : (Jvm.Cond.fieldLink "PersonSeedsModel" (16 : Nat) "PersonSeedsModel" "most" "[I") ∈ lw_tbl := tw_of 504 (by decide +kernel)
theorem tw_505 : (Jvm.Cond.fieldLink "PersonSeedsModel" (19 : Nat) "PersonSeedsModel" "full" "[I") ∈ lw_tbl := tw_of 505 (by decide +kernel)
theorem tw_506 : (Jvm.Cond.fieldLink "PersonSeedsModel" (22 : Nat) "PersonSeedsModel" "far" "[I") ∈ lw_tbl := tw_of 506 (by decide +kernel)
theorem tw_507 : (Jvm.Cond.fieldLink "PersonSeedsModel" (90 : Nat) "PersonSeedsModel" "doors" "I") ∈ lw_tbl := tw_of 507 (by decide +kernel)
theorem tw_508 : (Jvm.Cond.fieldLink "PersonSeedsModel" (25 : Nat) "PersonSeedsModel" "from" "[I") ∈ lw_tbl := tw_of 508 (by decide +kernel)
theorem tw_509 : (Jvm.Cond.fieldLink "PersonSeedsModel" (28 : Nat) "PersonSeedsModel" "to" "[I") ∈ lw_tbl := tw_of 509 (by decide +kernel)
theorem tw_510 : (Jvm.Cond.fieldLink "PersonSeedsModel" (31 : Nat) "PersonSeedsModel" "width" "[I") ∈ lw_tbl := tw_of 510 (by decide +kernel)
theorem tw_511 : (Jvm.Cond.fieldLink "PersonSeedsModel" (34 : Nat) "PersonSeedsModel" "gone" "[I") ∈ lw_tbl := tw_of 511 (by decide +kernel)
theorem tw_512 : (Jvm.Cond.fieldLink "PersonSeedsModel" (37 : Nat) "PersonSeedsModel" "onward" "[I") ∈ lw_tbl := tw_of 512 (by decide +kernel)
theorem tw_513 : (Jvm.Cond.fieldLink "PersonSeedsModel" (40 : Nat) "PersonSeedsModel" "backward" "[I") ∈ lw_tbl := tw_of 513 (by decide +kernel)
theorem tw_514 : (Jvm.Cond.fieldLink "PersonSeedsModel" (68 : Nat) "PersonSeedsModel" "persons" "I") ∈ lw_tbl := tw_of 514 (by decide +kernel)
theorem tw_515 : (Jvm.Cond.fieldLink "PersonSeedsModel" (43 : Nat) "PersonSeedsModel" "comes" "[I") ∈ lw_tbl := tw_of 515 (by decide +kernel)
theorem tw_516 : (Jvm.Cond.fieldLink "PersonSeedsModel" (46 : Nat) "PersonSeedsModel" "place" "[I") ∈ lw_tbl := tw_of 516 (by decide +kernel)
theorem tw_517 : (Jvm.Cond.fieldLink "PersonSeedsModel" (49 : Nat) "PersonSeedsModel" "waits" "[I") ∈ lw_tbl := tw_of 517 (by decide +kernel)
theorem tw_518 : (Jvm.Cond.fieldLink "PersonSeedsModel" (53 : Nat) "PersonSeedsModel" "past" "[B") ∈ lw_tbl := tw_of 518 (by decide +kernel)
theorem tw_519 : (Jvm.Cond.fieldLink "PersonSeedsModel" (132 : Nat) "PersonSeedsModel" "cameIn" "I") ∈ lw_tbl := tw_of 519 (by decide +kernel)
theorem tw_520 : (Jvm.Cond.fieldLink "PersonSeedsModel" (135 : Nat) "PersonSeedsModel" "wentOut" "I") ∈ lw_tbl := tw_of 520 (by decide +kernel)
theorem tw_521 : (Jvm.Cond.laysFinal "PersonSeedsModel" "PersonSeedsModel" "seed" "J") ∈ lw_tbl := tw_of 521 (by decide +kernel)
theorem tw_522 : (Jvm.Cond.soleField "PersonSeedsModel" "seed") ∈ lw_tbl := tw_of 522 (by decide +kernel)
theorem tw_523 : (Jvm.Cond.lays "PersonSeedsModel" "PersonSeedsModel" "fault" "I") ∈ lw_tbl := tw_of 523 (by decide +kernel)
theorem tw_524 : (Jvm.Cond.soleField "PersonSeedsModel" "fault") ∈ lw_tbl := tw_of 524 (by decide +kernel)
theorem tw_525 : (Jvm.Cond.lays "PersonSeedsModel" "PersonSeedsModel" "minute" "I") ∈ lw_tbl := tw_of 525 (by decide +kernel)
theorem tw_526 : (Jvm.Cond.soleField "PersonSeedsModel" "minute") ∈ lw_tbl := tw_of 526 (by decide +kernel)
theorem tw_527 : (Jvm.Cond.lays "PersonSeedsModel" "PersonSeedsModel" "rooms" "I") ∈ lw_tbl := tw_of 527 (by decide +kernel)
theorem tw_528 : (Jvm.Cond.soleField "PersonSeedsModel" "rooms") ∈ lw_tbl := tw_of 528 (by decide +kernel)
theorem tw_529 : (Jvm.Cond.laysFinal "PersonSeedsModel" "PersonSeedsModel" "cells" "[I") ∈ lw_tbl := tw_of 529 (by decide +kernel)
theorem tw_530 : (Jvm.Cond.soleField "PersonSeedsModel" "cells") ∈ lw_tbl := tw_of 530 (by decide +kernel)
theorem tw_531 : (Jvm.Cond.laysFinal "PersonSeedsModel" "PersonSeedsModel" "there" "[I") ∈ lw_tbl := tw_of 531 (by decide +kernel)
theorem tw_532 : (Jvm.Cond.soleField "PersonSeedsModel" "there") ∈ lw_tbl := tw_of 532 (by decide +kernel)
theorem tw_533 : (Jvm.Cond.laysFinal "PersonSeedsModel" "PersonSeedsModel" "most" "[I") ∈ lw_tbl := tw_of 533 (by decide +kernel)
theorem tw_534 : (Jvm.Cond.soleField "PersonSeedsModel" "most") ∈ lw_tbl := tw_of 534 (by decide +kernel)
theorem tw_535 : (Jvm.Cond.laysFinal "PersonSeedsModel" "PersonSeedsModel" "full" "[I") ∈ lw_tbl := tw_of 535 (by decide +kernel)
theorem tw_536 : (Jvm.Cond.soleField "PersonSeedsModel" "full") ∈ lw_tbl := tw_of 536 (by decide +kernel)
theorem tw_537 : (Jvm.Cond.laysFinal "PersonSeedsModel" "PersonSeedsModel" "far" "[I") ∈ lw_tbl := tw_of 537 (by decide +kernel)
theorem tw_538 : (Jvm.Cond.soleField "PersonSeedsModel" "far") ∈ lw_tbl := tw_of 538 (by decide +kernel)
theorem tw_539 : (Jvm.Cond.lays "PersonSeedsModel" "PersonSeedsModel" "doors" "I") ∈ lw_tbl := tw_of 539 (by decide +kernel)
theorem tw_540 : (Jvm.Cond.soleField "PersonSeedsModel" "doors") ∈ lw_tbl := tw_of 540 (by decide +kernel)
theorem tw_541 : (Jvm.Cond.laysFinal "PersonSeedsModel" "PersonSeedsModel" "from" "[I") ∈ lw_tbl := tw_of 541 (by decide +kernel)
theorem tw_542 : (Jvm.Cond.soleField "PersonSeedsModel" "from") ∈ lw_tbl := tw_of 542 (by decide +kernel)
theorem tw_543 : (Jvm.Cond.laysFinal "PersonSeedsModel" "PersonSeedsModel" "to" "[I") ∈ lw_tbl := tw_of 543 (by decide +kernel)
theorem tw_544 : (Jvm.Cond.soleField "PersonSeedsModel" "to") ∈ lw_tbl := tw_of 544 (by decide +kernel)
theorem tw_545 : (Jvm.Cond.laysFinal "PersonSeedsModel" "PersonSeedsModel" "width" "[I") ∈ lw_tbl := tw_of 545 (by decide +kernel)
theorem tw_546 : (Jvm.Cond.soleField "PersonSeedsModel" "width") ∈ lw_tbl := tw_of 546 (by decide +kernel)
theorem tw_547 : (Jvm.Cond.laysFinal "PersonSeedsModel" "PersonSeedsModel" "gone" "[I") ∈ lw_tbl := tw_of 547 (by decide +kernel)
theorem tw_548 : (Jvm.Cond.soleField "PersonSeedsModel" "gone") ∈ lw_tbl := tw_of 548 (by decide +kernel)
theorem tw_549 : (Jvm.Cond.laysFinal "PersonSeedsModel" "PersonSeedsModel" "onward" "[I") ∈ lw_tbl := tw_of 549 (by decide +kernel)
theorem tw_550 : (Jvm.Cond.soleField "PersonSeedsModel" "onward") ∈ lw_tbl := tw_of 550 (by decide +kernel)
theorem tw_551 : (Jvm.Cond.laysFinal "PersonSeedsModel" "PersonSeedsModel" "backward" "[I") ∈ lw_tbl := tw_of 551 (by decide +kernel)
theorem tw_552 : (Jvm.Cond.soleField "PersonSeedsModel" "backward") ∈ lw_tbl := tw_of 552 (by decide +kernel)
theorem tw_553 : (Jvm.Cond.lays "PersonSeedsModel" "PersonSeedsModel" "persons" "I") ∈ lw_tbl := tw_of 553 (by decide +kernel)
theorem tw_554 : (Jvm.Cond.soleField "PersonSeedsModel" "persons") ∈ lw_tbl := tw_of 554 (by decide +kernel)
theorem tw_555 : (Jvm.Cond.laysFinal "PersonSeedsModel" "PersonSeedsModel" "comes" "[I") ∈ lw_tbl := tw_of 555 (by decide +kernel)
theorem tw_556 : (Jvm.Cond.soleField "PersonSeedsModel" "comes") ∈ lw_tbl := tw_of 556 (by decide +kernel)
theorem tw_557 : (Jvm.Cond.laysFinal "PersonSeedsModel" "PersonSeedsModel" "place" "[I") ∈ lw_tbl := tw_of 557 (by decide +kernel)
theorem tw_558 : (Jvm.Cond.soleField "PersonSeedsModel" "place") ∈ lw_tbl := tw_of 558 (by decide +kernel)
theorem tw_559 : (Jvm.Cond.laysFinal "PersonSeedsModel" "PersonSeedsModel" "waits" "[I") ∈ lw_tbl := tw_of 559 (by decide +kernel)
theorem tw_560 : (Jvm.Cond.soleField "PersonSeedsModel" "waits") ∈ lw_tbl := tw_of 560 (by decide +kernel)
theorem tw_561 : (Jvm.Cond.laysFinal "PersonSeedsModel" "PersonSeedsModel" "past" "[B") ∈ lw_tbl := tw_of 561 (by decide +kernel)
theorem tw_562 : (Jvm.Cond.soleField "PersonSeedsModel" "past") ∈ lw_tbl := tw_of 562 (by decide +kernel)
theorem tw_563 : (Jvm.Cond.lays "PersonSeedsModel" "PersonSeedsModel" "cameIn" "I") ∈ lw_tbl := tw_of 563 (by decide +kernel)
theorem tw_564 : (Jvm.Cond.soleField "PersonSeedsModel" "cameIn") ∈ lw_tbl := tw_of 564 (by decide +kernel)
theorem tw_565 : (Jvm.Cond.lays "PersonSeedsModel" "PersonSeedsModel" "wentOut" "I") ∈ lw_tbl := tw_of 565 (by decide +kernel)
theorem tw_566 : (Jvm.Cond.soleField "PersonSeedsModel" "wentOut") ∈ lw_tbl := tw_of 566 (by decide +kernel)
theorem tw_567 : (Jvm.Cond.superclass "PersonSeedsModel" "java/lang/Object") ∈ lw_tbl := tw_of 567 (by decide +kernel)
theorem tw_568 : (Jvm.Cond.methodLink "PersonSeedsLaw" (75 : Nat) ({ cls := "PersonSeedsModel", name := "thrown", desc := "()I" } : Jvm.MethodName)) ∈ lw_tbl := tw_of 568 (by decide +kernel)
theorem tw_569 : (Jvm.Cond.instanceMethod ({ cls := "PersonSeedsModel", name := "thrown", desc := "()I" } : Jvm.MethodName)) ∈ lw_tbl := tw_of 569 (by decide +kernel)
theorem tw_570 : (Jvm.Cond.selects "PersonSeedsModel" ({ cls := "PersonSeedsModel", name := "thrown", desc := "()I" } : Jvm.MethodName) ({ cls := "PersonSeedsModel", name := "thrown", desc := "()I" } : Jvm.MethodName)) ∈ lw_tbl := tw_of 570 (by decide +kernel)
theorem tw_571 : (Jvm.Cond.code ({ cls := "PersonSeedsModel", name := "thrown", desc := "()I" } : Jvm.MethodName) prog_7_method_2_code (1 : Nat) (Option.some Jvm.ClassFile.FieldType.int)) ∈ lw_tbl := tw_of 571 (by decide +kernel)
theorem tw_572 : (Jvm.Cond.methodLink "PersonSeedsLaw" (74 : Nat) ({ cls := "PersonSeedsModel", name := "room", desc := "(I)I" } : Jvm.MethodName)) ∈ lw_tbl := tw_of 572 (by decide +kernel)
theorem tw_573 : (Jvm.Cond.instanceMethod ({ cls := "PersonSeedsModel", name := "room", desc := "(I)I" } : Jvm.MethodName)) ∈ lw_tbl := tw_of 573 (by decide +kernel)
theorem tw_574 : (Jvm.Cond.selects "PersonSeedsModel" ({ cls := "PersonSeedsModel", name := "room", desc := "(I)I" } : Jvm.MethodName) ({ cls := "PersonSeedsModel", name := "room", desc := "(I)I" } : Jvm.MethodName)) ∈ lw_tbl := tw_of 574 (by decide +kernel)
theorem tw_575 : (Jvm.Cond.code ({ cls := "PersonSeedsModel", name := "room", desc := "(I)I" } : Jvm.MethodName) prog_7_method_7_code (2 : Nat) (Option.some Jvm.ClassFile.FieldType.int)) ∈ lw_tbl := tw_of 575 (by decide +kernel)
theorem tw_576 : (Jvm.Cond.constantLong "PersonSeedsModel" (71 : Nat) (100 : Int64)) ∈ lw_tbl := tw_of 576 (by decide +kernel)
theorem tw_577 : (Jvm.Cond.methodLink "PersonSeedsModel" (73 : Nat) ({ cls := "PersonSeedsModel", name := "within", desc := "(JJJ)Z" } : Jvm.MethodName)) ∈ lw_tbl := tw_of 577 (by decide +kernel)
theorem tw_578 : (Jvm.Cond.static ({ cls := "PersonSeedsModel", name := "within", desc := "(JJJ)Z" } : Jvm.MethodName)) ∈ lw_tbl := tw_of 578 (by decide +kernel)
theorem tw_579 : (Jvm.Cond.code ({ cls := "PersonSeedsModel", name := "within", desc := "(JJJ)Z" } : Jvm.MethodName) prog_7_method_4_code (6 : Nat) (Option.some Jvm.ClassFile.FieldType.boolean)) ∈ lw_tbl := tw_of 579 (by decide +kernel)
theorem tw_580 : (Jvm.Cond.methodLink "PersonSeedsModel" (80 : Nat) ({ cls := "PersonSeedsModel", name := "may", desc := "(ZZ)Z" } : Jvm.MethodName)) ∈ lw_tbl := tw_of 580 (by decide +kernel)
theorem tw_581 : (Jvm.Cond.privateMethod ({ cls := "PersonSeedsModel", name := "may", desc := "(ZZ)Z" } : Jvm.MethodName)) ∈ lw_tbl := tw_of 581 (by decide +kernel)
theorem tw_582 : (Jvm.Cond.instanceMethod ({ cls := "PersonSeedsModel", name := "may", desc := "(ZZ)Z" } : Jvm.MethodName)) ∈ lw_tbl := tw_of 582 (by decide +kernel)
theorem tw_583 : (Jvm.Cond.code ({ cls := "PersonSeedsModel", name := "may", desc := "(ZZ)Z" } : Jvm.MethodName) prog_7_method_3_code (3 : Nat) (Option.some Jvm.ClassFile.FieldType.boolean)) ∈ lw_tbl := tw_of 583 (by decide +kernel)
theorem tw_584 : (Jvm.Cond.methodLink "PersonSeedsLaw" (82 : Nat) ({ cls := "PersonSeedsModel", name := "door", desc := "(III)I" } : Jvm.MethodName)) ∈ lw_tbl := tw_of 584 (by decide +kernel)
theorem tw_585 : (Jvm.Cond.instanceMethod ({ cls := "PersonSeedsModel", name := "door", desc := "(III)I" } : Jvm.MethodName)) ∈ lw_tbl := tw_of 585 (by decide +kernel)
theorem tw_586 : (Jvm.Cond.selects "PersonSeedsModel" ({ cls := "PersonSeedsModel", name := "door", desc := "(III)I" } : Jvm.MethodName) ({ cls := "PersonSeedsModel", name := "door", desc := "(III)I" } : Jvm.MethodName)) ∈ lw_tbl := tw_of 586 (by decide +kernel)
theorem tw_587 : (Jvm.Cond.code ({ cls := "PersonSeedsModel", name := "door", desc := "(III)I" } : Jvm.MethodName) prog_7_method_8_code (4 : Nat) (Option.some Jvm.ClassFile.FieldType.int)) ∈ lw_tbl := tw_of 587 (by decide +kernel)
theorem tw_588 : (Jvm.Cond.methodLink "PersonSeedsModel" (84 : Nat) ({ cls := "PersonSeedsModel", name := "isRoom", desc := "(I)Z" } : Jvm.MethodName)) ∈ lw_tbl := tw_of 588 (by decide +kernel)
theorem tw_589 : (Jvm.Cond.privateMethod ({ cls := "PersonSeedsModel", name := "isRoom", desc := "(I)Z" } : Jvm.MethodName)) ∈ lw_tbl := tw_of 589 (by decide +kernel)
theorem tw_590 : (Jvm.Cond.instanceMethod ({ cls := "PersonSeedsModel", name := "isRoom", desc := "(I)Z" } : Jvm.MethodName)) ∈ lw_tbl := tw_of 590 (by decide +kernel)
theorem tw_591 : (Jvm.Cond.code ({ cls := "PersonSeedsModel", name := "isRoom", desc := "(I)Z" } : Jvm.MethodName) prog_7_method_5_code (2 : Nat) (Option.some Jvm.ClassFile.FieldType.boolean)) ∈ lw_tbl := tw_of 591 (by decide +kernel)
theorem tw_592 : (Jvm.Cond.constantLong "PersonSeedsModel" (88 : Nat) (20 : Int64)) ∈ lw_tbl := tw_of 592 (by decide +kernel)
theorem tw_593 : (Jvm.Cond.methodLink "PersonSeedsModel" (93 : Nat) ({ cls := "PersonSeedsModel", name := "shorten", desc := "(II)V" } : Jvm.MethodName)) ∈ lw_tbl := tw_of 593 (by decide +kernel)
theorem tw_594 : (Jvm.Cond.privateMethod ({ cls := "PersonSeedsModel", name := "shorten", desc := "(II)V" } : Jvm.MethodName)) ∈ lw_tbl := tw_of 594 (by decide +kernel)
theorem tw_595 : (Jvm.Cond.instanceMethod ({ cls := "PersonSeedsModel", name := "shorten", desc := "(II)V" } : Jvm.MethodName)) ∈ lw_tbl := tw_of 595 (by decide +kernel)
theorem tw_596 : (Jvm.Cond.code ({ cls := "PersonSeedsModel", name := "shorten", desc := "(II)V" } : Jvm.MethodName) prog_7_method_9_code (9 : Nat) (Option.none : Option Jvm.ClassFile.FieldType)) ∈ lw_tbl := tw_of 596 (by decide +kernel)
theorem tw_597 : (Jvm.Cond.methodLink "PersonSeedsLaw" (86 : Nat) ({ cls := "PersonSeedsModel", name := "arrives", desc := "(II)I" } : Jvm.MethodName)) ∈ lw_tbl := tw_of 597 (by decide +kernel)
theorem tw_598 : (Jvm.Cond.instanceMethod ({ cls := "PersonSeedsModel", name := "arrives", desc := "(II)I" } : Jvm.MethodName)) ∈ lw_tbl := tw_of 598 (by decide +kernel)
theorem tw_599 : (Jvm.Cond.selects "PersonSeedsModel" ({ cls := "PersonSeedsModel", name := "arrives", desc := "(II)I" } : Jvm.MethodName) ({ cls := "PersonSeedsModel", name := "arrives", desc := "(II)I" } : Jvm.MethodName)) ∈ lw_tbl := tw_of 599 (by decide +kernel)
theorem tw_600 : (Jvm.Cond.code ({ cls := "PersonSeedsModel", name := "arrives", desc := "(II)I" } : Jvm.MethodName) prog_7_method_10_code (5 : Nat) (Option.some Jvm.ClassFile.FieldType.int)) ∈ lw_tbl := tw_of 600 (by decide +kernel)
theorem tw_601 : (Jvm.Cond.constantLong "PersonSeedsModel" (97 : Nat) (1439 : Int64)) ∈ lw_tbl := tw_of 601 (by decide +kernel)
theorem tw_602 : (Jvm.Cond.methodLink "PersonSeedsLaw" (89 : Nat) ({ cls := "PersonSeedsModel", name := "draw", desc := "(III)I" } : Jvm.MethodName)) ∈ lw_tbl := tw_of 602 (by decide +kernel)
theorem tw_603 : (Jvm.Cond.instanceMethod ({ cls := "PersonSeedsModel", name := "draw", desc := "(III)I" } : Jvm.MethodName)) ∈ lw_tbl := tw_of 603 (by decide +kernel)
theorem tw_604 : (Jvm.Cond.selects "PersonSeedsModel" ({ cls := "PersonSeedsModel", name := "draw", desc := "(III)I" } : Jvm.MethodName) ({ cls := "PersonSeedsModel", name := "draw", desc := "(III)I" } : Jvm.MethodName)) ∈ lw_tbl := tw_of 604 (by decide +kernel)
theorem tw_605 : (Jvm.Cond.code ({ cls := "PersonSeedsModel", name := "draw", desc := "(III)I" } : Jvm.MethodName) prog_7_method_12_code (4 : Nat) (Option.some Jvm.ClassFile.FieldType.int)) ∈ lw_tbl := tw_of 605 (by decide +kernel)
theorem tw_606 : (Jvm.Cond.constantLong "PersonSeedsModel" (107 : Nat) (59 : Int64)) ∈ lw_tbl := tw_of 606 (by decide +kernel)
theorem tw_607 : (Jvm.Cond.constantLong "PersonSeedsModel" (109 : Nat) (7 : Int64)) ∈ lw_tbl := tw_of 607 (by decide +kernel)
theorem tw_608 : (Jvm.Cond.constantLong "PersonSeedsModel" (111 : Nat) (1000000 : Int64)) ∈ lw_tbl := tw_of 608 (by decide +kernel)
theorem tw_609 : (Jvm.Cond.methodLink "PersonSeedsModel" (113 : Nat) ({ cls := "PersonSeedsModel", name := "drawn", desc := "(III)I" } : Jvm.MethodName)) ∈ lw_tbl := tw_of 609 (by decide +kernel)
theorem tw_610 : (Jvm.Cond.privateMethod ({ cls := "PersonSeedsModel", name := "drawn", desc := "(III)I" } : Jvm.MethodName)) ∈ lw_tbl := tw_of 610 (by decide +kernel)
theorem tw_611 : (Jvm.Cond.instanceMethod ({ cls := "PersonSeedsModel", name := "drawn", desc := "(III)I" } : Jvm.MethodName)) ∈ lw_tbl := tw_of 611 (by decide +kernel)
theorem tw_612 : (Jvm.Cond.code ({ cls := "PersonSeedsModel", name := "drawn", desc := "(III)I" } : Jvm.MethodName) prog_7_method_11_code (6 : Nat) (Option.some Jvm.ClassFile.FieldType.int)) ∈ lw_tbl := tw_of 612 (by decide +kernel)
theorem tw_613 : (Jvm.Cond.constantLong "PersonSeedsModel" (99 : Nat) (-7046029254386353131 : Int64)) ∈ lw_tbl := tw_of 613 (by decide +kernel)
theorem tw_614 : (Jvm.Cond.constantLong "PersonSeedsModel" (101 : Nat) (8 : Int64)) ∈ lw_tbl := tw_of 614 (by decide +kernel)
theorem tw_615 : (Jvm.Cond.constantLong "PersonSeedsModel" (103 : Nat) (-4658895280553007687 : Int64)) ∈ lw_tbl := tw_of 615 (by decide +kernel)
theorem tw_616 : (Jvm.Cond.constantLong "PersonSeedsModel" (105 : Nat) (-7723592293110705685 : Int64)) ∈ lw_tbl := tw_of 616 (by decide +kernel)
theorem tw_617 : (Jvm.Cond.methodLink "PersonSeedsLaw" (92 : Nat) ({ cls := "PersonSeedsModel", name := "run", desc := "(I)I" } : Jvm.MethodName)) ∈ lw_tbl := tw_of 617 (by decide +kernel)
theorem tw_618 : (Jvm.Cond.instanceMethod ({ cls := "PersonSeedsModel", name := "run", desc := "(I)I" } : Jvm.MethodName)) ∈ lw_tbl := tw_of 618 (by decide +kernel)
theorem tw_619 : (Jvm.Cond.selects "PersonSeedsModel" ({ cls := "PersonSeedsModel", name := "run", desc := "(I)I" } : Jvm.MethodName) ({ cls := "PersonSeedsModel", name := "run", desc := "(I)I" } : Jvm.MethodName)) ∈ lw_tbl := tw_of 619 (by decide +kernel)
theorem tw_620 : (Jvm.Cond.code ({ cls := "PersonSeedsModel", name := "run", desc := "(I)I" } : Jvm.MethodName) prog_7_method_20_code (4 : Nat) (Option.some Jvm.ClassFile.FieldType.int)) ∈ lw_tbl := tw_of 620 (by decide +kernel)
theorem tw_621 : (Jvm.Cond.constantLong "PersonSeedsModel" (145 : Nat) (500 : Int64)) ∈ lw_tbl := tw_of 621 (by decide +kernel)
theorem tw_622 : (Jvm.Cond.methodLink "PersonSeedsModel" (147 : Nat) ({ cls := "PersonSeedsModel", name := "oneMinute", desc := "()V" } : Jvm.MethodName)) ∈ lw_tbl := tw_of 622 (by decide +kernel)
theorem tw_623 : (Jvm.Cond.privateMethod ({ cls := "PersonSeedsModel", name := "oneMinute", desc := "()V" } : Jvm.MethodName)) ∈ lw_tbl := tw_of 623 (by decide +kernel)
theorem tw_624 : (Jvm.Cond.instanceMethod ({ cls := "PersonSeedsModel", name := "oneMinute", desc := "()V" } : Jvm.MethodName)) ∈ lw_tbl := tw_of 624 (by decide +kernel)
theorem tw_625 : (Jvm.Cond.code ({ cls := "PersonSeedsModel", name := "oneMinute", desc := "()V" } : Jvm.MethodName) prog_7_method_19_code (2 : Nat) (Option.none : Option Jvm.ClassFile.FieldType)) ∈ lw_tbl := tw_of 625 (by decide +kernel)
theorem tw_626 : (Jvm.Cond.methodLink "PersonSeedsModel" (141 : Nat) ({ cls := "PersonSeedsModel", name := "step", desc := "(I)V" } : Jvm.MethodName)) ∈ lw_tbl := tw_of 626 (by decide +kernel)
theorem tw_627 : (Jvm.Cond.privateMethod ({ cls := "PersonSeedsModel", name := "step", desc := "(I)V" } : Jvm.MethodName)) ∈ lw_tbl := tw_of 627 (by decide +kernel)
theorem tw_628 : (Jvm.Cond.instanceMethod ({ cls := "PersonSeedsModel", name := "step", desc := "(I)V" } : Jvm.MethodName)) ∈ lw_tbl := tw_of 628 (by decide +kernel)
theorem tw_629 : (Jvm.Cond.code ({ cls := "PersonSeedsModel", name := "step", desc := "(I)V" } : Jvm.MethodName) prog_7_method_18_code (3 : Nat) (Option.none : Option Jvm.ClassFile.FieldType)) ∈ lw_tbl := tw_of 629 (by decide +kernel)
theorem tw_630 : (Jvm.Cond.methodLink "PersonSeedsModel" (128 : Nat) ({ cls := "PersonSeedsModel", name := "wants", desc := "(I)I" } : Jvm.MethodName)) ∈ lw_tbl := tw_of 630 (by decide +kernel)
theorem tw_631 : (Jvm.Cond.privateMethod ({ cls := "PersonSeedsModel", name := "wants", desc := "(I)I" } : Jvm.MethodName)) ∈ lw_tbl := tw_of 631 (by decide +kernel)
theorem tw_632 : (Jvm.Cond.instanceMethod ({ cls := "PersonSeedsModel", name := "wants", desc := "(I)I" } : Jvm.MethodName)) ∈ lw_tbl := tw_of 632 (by decide +kernel)
theorem tw_633 : (Jvm.Cond.code ({ cls := "PersonSeedsModel", name := "wants", desc := "(I)I" } : Jvm.MethodName) prog_7_method_14_code (2 : Nat) (Option.some Jvm.ClassFile.FieldType.int)) ∈ lw_tbl := tw_of 633 (by decide +kernel)
theorem tw_634 : (Jvm.Cond.methodLink "PersonSeedsModel" (117 : Nat) ({ cls := "PersonSeedsModel", name := "tell", desc := "(II)I" } : Jvm.MethodName)) ∈ lw_tbl := tw_of 634 (by decide +kernel)
theorem tw_635 : (Jvm.Cond.privateMethod ({ cls := "PersonSeedsModel", name := "tell", desc := "(II)I" } : Jvm.MethodName)) ∈ lw_tbl := tw_of 635 (by decide +kernel)
theorem tw_636 : (Jvm.Cond.instanceMethod ({ cls := "PersonSeedsModel", name := "tell", desc := "(II)I" } : Jvm.MethodName)) ∈ lw_tbl := tw_of 636 (by decide +kernel)
theorem tw_637 : (Jvm.Cond.code ({ cls := "PersonSeedsModel", name := "tell", desc := "(II)I" } : Jvm.MethodName) prog_7_method_13_code (4 : Nat) (Option.some Jvm.ClassFile.FieldType.int)) ∈ lw_tbl := tw_of 637 (by decide +kernel)
theorem tw_638 : (Jvm.Cond.methodLink "PersonSeedsModel" (124 : Nat) ({ cls := "PersonSeedsModel", name := "goes", desc := "(II)Z" } : Jvm.MethodName)) ∈ lw_tbl := tw_of 638 (by decide +kernel)
theorem tw_639 : (Jvm.Cond.privateMethod ({ cls := "PersonSeedsModel", name := "goes", desc := "(II)Z" } : Jvm.MethodName)) ∈ lw_tbl := tw_of 639 (by decide +kernel)
theorem tw_640 : (Jvm.Cond.instanceMethod ({ cls := "PersonSeedsModel", name := "goes", desc := "(II)Z" } : Jvm.MethodName)) ∈ lw_tbl := tw_of 640 (by decide +kernel)
theorem tw_641 : (Jvm.Cond.code ({ cls := "PersonSeedsModel", name := "goes", desc := "(II)Z" } : Jvm.MethodName) prog_7_method_15_code (3 : Nat) (Option.some Jvm.ClassFile.FieldType.boolean)) ∈ lw_tbl := tw_of 641 (by decide +kernel)
theorem tw_642 : (Jvm.Cond.methodLink "PersonSeedsModel" (138 : Nat) ({ cls := "PersonSeedsModel", name := "throughDoor", desc := "(II)V" } : Jvm.MethodName)) ∈ lw_tbl := tw_of 642 (by decide +kernel)
theorem tw_643 : (Jvm.Cond.privateMethod ({ cls := "PersonSeedsModel", name := "throughDoor", desc := "(II)V" } : Jvm.MethodName)) ∈ lw_tbl := tw_of 643 (by decide +kernel)
theorem tw_644 : (Jvm.Cond.instanceMethod ({ cls := "PersonSeedsModel", name := "throughDoor", desc := "(II)V" } : Jvm.MethodName)) ∈ lw_tbl := tw_of 644 (by decide +kernel)
theorem tw_645 : (Jvm.Cond.code ({ cls := "PersonSeedsModel", name := "throughDoor", desc := "(II)V" } : Jvm.MethodName) prog_7_method_17_code (5 : Nat) (Option.none : Option Jvm.ClassFile.FieldType)) ∈ lw_tbl := tw_of 645 (by decide +kernel)
theorem tw_646 : (Jvm.Cond.methodLink "PersonSeedsModel" (121 : Nat) ({ cls := "PersonSeedsModel", name := "doorOf", desc := "(II)I" } : Jvm.MethodName)) ∈ lw_tbl := tw_of 646 (by decide +kernel)
theorem tw_647 : (Jvm.Cond.privateMethod ({ cls := "PersonSeedsModel", name := "doorOf", desc := "(II)I" } : Jvm.MethodName)) ∈ lw_tbl := tw_of 647 (by decide +kernel)
theorem tw_648 : (Jvm.Cond.instanceMethod ({ cls := "PersonSeedsModel", name := "doorOf", desc := "(II)I" } : Jvm.MethodName)) ∈ lw_tbl := tw_of 648 (by decide +kernel)
theorem tw_649 : (Jvm.Cond.code ({ cls := "PersonSeedsModel", name := "doorOf", desc := "(II)I" } : Jvm.MethodName) prog_7_method_16_code (6 : Nat) (Option.some Jvm.ClassFile.FieldType.int)) ∈ lw_tbl := tw_of 649 (by decide +kernel)
theorem tw_650 : (Jvm.Cond.methodLink "PersonSeedsLaw" (95 : Nat) ({ cls := "PersonSeedsModel", name := "person", desc := "(II)I" } : Jvm.MethodName)) ∈ lw_tbl := tw_of 650 (by decide +kernel)
theorem tw_651 : (Jvm.Cond.instanceMethod ({ cls := "PersonSeedsModel", name := "person", desc := "(II)I" } : Jvm.MethodName)) ∈ lw_tbl := tw_of 651 (by decide +kernel)
theorem tw_652 : (Jvm.Cond.selects "PersonSeedsModel" ({ cls := "PersonSeedsModel", name := "person", desc := "(II)I" } : Jvm.MethodName) ({ cls := "PersonSeedsModel", name := "person", desc := "(II)I" } : Jvm.MethodName)) ∈ lw_tbl := tw_of 652 (by decide +kernel)
theorem tw_653 : (Jvm.Cond.code ({ cls := "PersonSeedsModel", name := "person", desc := "(II)I" } : Jvm.MethodName) prog_7_method_21_code (3 : Nat) (Option.some Jvm.ClassFile.FieldType.int)) ∈ lw_tbl := tw_of 653 (by decide +kernel)
theorem tw_654 : (Jvm.Cond.methodLink "PersonSeedsModel" (150 : Nat) ({ cls := "PersonSeedsModel", name := "isPerson", desc := "(I)Z" } : Jvm.MethodName)) ∈ lw_tbl := tw_of 654 (by decide +kernel)
theorem tw_655 : (Jvm.Cond.privateMethod ({ cls := "PersonSeedsModel", name := "isPerson", desc := "(I)Z" } : Jvm.MethodName)) ∈ lw_tbl := tw_of 655 (by decide +kernel)
theorem tw_656 : (Jvm.Cond.instanceMethod ({ cls := "PersonSeedsModel", name := "isPerson", desc := "(I)Z" } : Jvm.MethodName)) ∈ lw_tbl := tw_of 656 (by decide +kernel)
theorem tw_657 : (Jvm.Cond.code ({ cls := "PersonSeedsModel", name := "isPerson", desc := "(I)Z" } : Jvm.MethodName) prog_7_method_6_code (2 : Nat) (Option.some Jvm.ClassFile.FieldType.boolean)) ∈ lw_tbl := tw_of 657 (by decide +kernel)
theorem tw_658 : (Jvm.Cond.constantLong "PersonSeedsModel" (153 : Nat) (5 : Int64)) ∈ lw_tbl := tw_of 658 (by decide +kernel)
theorem tw_659 : (Jvm.Cond.methodLink "PersonSeedsLaw" (98 : Nat) ({ cls := "PersonSeedsModel", name := "at", desc := "(I)I" } : Jvm.MethodName)) ∈ lw_tbl := tw_of 659 (by decide +kernel)
theorem tw_660 : (Jvm.Cond.instanceMethod ({ cls := "PersonSeedsModel", name := "at", desc := "(I)I" } : Jvm.MethodName)) ∈ lw_tbl := tw_of 660 (by decide +kernel)
theorem tw_661 : (Jvm.Cond.selects "PersonSeedsModel" ({ cls := "PersonSeedsModel", name := "at", desc := "(I)I" } : Jvm.MethodName) ({ cls := "PersonSeedsModel", name := "at", desc := "(I)I" } : Jvm.MethodName)) ∈ lw_tbl := tw_of 661 (by decide +kernel)
theorem tw_662 : (Jvm.Cond.code ({ cls := "PersonSeedsModel", name := "at", desc := "(I)I" } : Jvm.MethodName) prog_7_method_22_code (2 : Nat) (Option.some Jvm.ClassFile.FieldType.int)) ∈ lw_tbl := tw_of 662 (by decide +kernel)
theorem tw_663 : (Jvm.Cond.methodLink "PersonSeedsLaw" (101 : Nat) ({ cls := "PersonSeedsModel", name := "was", desc := "(II)I" } : Jvm.MethodName)) ∈ lw_tbl := tw_of 663 (by decide +kernel)
theorem tw_664 : (Jvm.Cond.instanceMethod ({ cls := "PersonSeedsModel", name := "was", desc := "(II)I" } : Jvm.MethodName)) ∈ lw_tbl := tw_of 664 (by decide +kernel)
theorem tw_665 : (Jvm.Cond.selects "PersonSeedsModel" ({ cls := "PersonSeedsModel", name := "was", desc := "(II)I" } : Jvm.MethodName) ({ cls := "PersonSeedsModel", name := "was", desc := "(II)I" } : Jvm.MethodName)) ∈ lw_tbl := tw_of 665 (by decide +kernel)
theorem tw_666 : (Jvm.Cond.code ({ cls := "PersonSeedsModel", name := "was", desc := "(II)I" } : Jvm.MethodName) prog_7_method_24_code (3 : Nat) (Option.some Jvm.ClassFile.FieldType.int)) ∈ lw_tbl := tw_of 666 (by decide +kernel)
theorem tw_667 : (Jvm.Cond.methodLink "PersonSeedsModel" (155 : Nat) ({ cls := "PersonSeedsModel", name := "isOver", desc := "(I)Z" } : Jvm.MethodName)) ∈ lw_tbl := tw_of 667 (by decide +kernel)
theorem tw_668 : (Jvm.Cond.privateMethod ({ cls := "PersonSeedsModel", name := "isOver", desc := "(I)Z" } : Jvm.MethodName)) ∈ lw_tbl := tw_of 668 (by decide +kernel)
theorem tw_669 : (Jvm.Cond.instanceMethod ({ cls := "PersonSeedsModel", name := "isOver", desc := "(I)Z" } : Jvm.MethodName)) ∈ lw_tbl := tw_of 669 (by decide +kernel)
theorem tw_670 : (Jvm.Cond.code ({ cls := "PersonSeedsModel", name := "isOver", desc := "(I)Z" } : Jvm.MethodName) prog_7_method_23_code (2 : Nat) (Option.some Jvm.ClassFile.FieldType.boolean)) ∈ lw_tbl := tw_of 670 (by decide +kernel)
theorem tw_671 : (Jvm.Cond.methodLink "PersonSeedsLaw" (104 : Nat) ({ cls := "PersonSeedsModel", name := "waited", desc := "(I)I" } : Jvm.MethodName)) ∈ lw_tbl := tw_of 671 (by decide +kernel)
theorem tw_672 : (Jvm.Cond.instanceMethod ({ cls := "PersonSeedsModel", name := "waited", desc := "(I)I" } : Jvm.MethodName)) ∈ lw_tbl := tw_of 672 (by decide +kernel)
theorem tw_673 : (Jvm.Cond.selects "PersonSeedsModel" ({ cls := "PersonSeedsModel", name := "waited", desc := "(I)I" } : Jvm.MethodName) ({ cls := "PersonSeedsModel", name := "waited", desc := "(I)I" } : Jvm.MethodName)) ∈ lw_tbl := tw_of 673 (by decide +kernel)
theorem tw_674 : (Jvm.Cond.code ({ cls := "PersonSeedsModel", name := "waited", desc := "(I)I" } : Jvm.MethodName) prog_7_method_25_code (2 : Nat) (Option.some Jvm.ClassFile.FieldType.int)) ∈ lw_tbl := tw_of 674 (by decide +kernel)
theorem tw_675 : (Jvm.Cond.methodLink "PersonSeedsLaw" (107 : Nat) ({ cls := "PersonSeedsModel", name := "in", desc := "(II)I" } : Jvm.MethodName)) ∈ lw_tbl := tw_of 675 (by decide +kernel)
theorem tw_676 : (Jvm.Cond.instanceMethod ({ cls := "PersonSeedsModel", name := "in", desc := "(II)I" } : Jvm.MethodName)) ∈ lw_tbl := tw_of 676 (by decide +kernel)
theorem tw_677 : (Jvm.Cond.selects "PersonSeedsModel" ({ cls := "PersonSeedsModel", name := "in", desc := "(II)I" } : Jvm.MethodName) ({ cls := "PersonSeedsModel", name := "in", desc := "(II)I" } : Jvm.MethodName)) ∈ lw_tbl := tw_of 677 (by decide +kernel)
theorem tw_678 : (Jvm.Cond.code ({ cls := "PersonSeedsModel", name := "in", desc := "(II)I" } : Jvm.MethodName) prog_7_method_26_code (3 : Nat) (Option.some Jvm.ClassFile.FieldType.int)) ∈ lw_tbl := tw_of 678 (by decide +kernel)
theorem tw_679 : (Jvm.Cond.constantLong "PersonSeedsModel" (158 : Nat) (2 : Int64)) ∈ lw_tbl := tw_of 679 (by decide +kernel)
theorem tw_680 : (Jvm.Cond.methodLink "PersonSeedsLaw" (110 : Nat) ({ cls := "PersonSeedsModel", name := "inThen", desc := "(II)I" } : Jvm.MethodName)) ∈ lw_tbl := tw_of 680 (by decide +kernel)
theorem tw_681 : (Jvm.Cond.instanceMethod ({ cls := "PersonSeedsModel", name := "inThen", desc := "(II)I" } : Jvm.MethodName)) ∈ lw_tbl := tw_of 681 (by decide +kernel)
theorem tw_682 : (Jvm.Cond.selects "PersonSeedsModel" ({ cls := "PersonSeedsModel", name := "inThen", desc := "(II)I" } : Jvm.MethodName) ({ cls := "PersonSeedsModel", name := "inThen", desc := "(II)I" } : Jvm.MethodName)) ∈ lw_tbl := tw_of 682 (by decide +kernel)
theorem tw_683 : (Jvm.Cond.code ({ cls := "PersonSeedsModel", name := "inThen", desc := "(II)I" } : Jvm.MethodName) prog_7_method_27_code (5 : Nat) (Option.some Jvm.ClassFile.FieldType.int)) ∈ lw_tbl := tw_of 683 (by decide +kernel)
theorem tw_684 : (Jvm.Cond.methodLink "PersonSeedsLaw" (114 : Nat) ({ cls := "PersonSeedsModel", name := "through", desc := "(IZ)I" } : Jvm.MethodName)) ∈ lw_tbl := tw_of 684 (by decide +kernel)
theorem tw_685 : (Jvm.Cond.instanceMethod ({ cls := "PersonSeedsModel", name := "through", desc := "(IZ)I" } : Jvm.MethodName)) ∈ lw_tbl := tw_of 685 (by decide +kernel)
theorem tw_686 : (Jvm.Cond.selects "PersonSeedsModel" ({ cls := "PersonSeedsModel", name := "through", desc := "(IZ)I" } : Jvm.MethodName) ({ cls := "PersonSeedsModel", name := "through", desc := "(IZ)I" } : Jvm.MethodName)) ∈ lw_tbl := tw_of 686 (by decide +kernel)
theorem tw_687 : (Jvm.Cond.code ({ cls := "PersonSeedsModel", name := "through", desc := "(IZ)I" } : Jvm.MethodName) prog_7_method_28_code (3 : Nat) (Option.some Jvm.ClassFile.FieldType.int)) ∈ lw_tbl := tw_of 687 (by decide +kernel)
theorem tw_688 : (Jvm.Cond.methodLink "PersonSeedsLaw" (117 : Nat) ({ cls := "PersonSeedsModel", name := "distance", desc := "(II)I" } : Jvm.MethodName)) ∈ lw_tbl := tw_of 688 (by decide +kernel)
theorem tw_689 : (Jvm.Cond.instanceMethod ({ cls := "PersonSeedsModel", name := "distance", desc := "(II)I" } : Jvm.MethodName)) ∈ lw_tbl := tw_of 689 (by decide +kernel)
theorem tw_690 : (Jvm.Cond.selects "PersonSeedsModel" ({ cls := "PersonSeedsModel", name := "distance", desc := "(II)I" } : Jvm.MethodName) ({ cls := "PersonSeedsModel", name := "distance", desc := "(II)I" } : Jvm.MethodName)) ∈ lw_tbl := tw_of 690 (by decide +kernel)
theorem tw_691 : (Jvm.Cond.code ({ cls := "PersonSeedsModel", name := "distance", desc := "(II)I" } : Jvm.MethodName) prog_7_method_29_code (3 : Nat) (Option.some Jvm.ClassFile.FieldType.int)) ∈ lw_tbl := tw_of 691 (by decide +kernel)
theorem tw_692 : (Jvm.Cond.methodLink "PersonSeedsLaw" (120 : Nat) ({ cls := "PersonSeedsModel", name := "met", desc := "(II)I" } : Jvm.MethodName)) ∈ lw_tbl := tw_of 692 (by decide +kernel)
theorem tw_693 : (Jvm.Cond.instanceMethod ({ cls := "PersonSeedsModel", name := "met", desc := "(II)I" } : Jvm.MethodName)) ∈ lw_tbl := tw_of 693 (by decide +kernel)
theorem tw_694 : (Jvm.Cond.selects "PersonSeedsModel" ({ cls := "PersonSeedsModel", name := "met", desc := "(II)I" } : Jvm.MethodName) ({ cls := "PersonSeedsModel", name := "met", desc := "(II)I" } : Jvm.MethodName)) ∈ lw_tbl := tw_of 694 (by decide +kernel)
theorem tw_695 : (Jvm.Cond.code ({ cls := "PersonSeedsModel", name := "met", desc := "(II)I" } : Jvm.MethodName) prog_7_method_30_code (5 : Nat) (Option.some Jvm.ClassFile.FieldType.int)) ∈ lw_tbl := tw_of 695 (by decide +kernel)
theorem tw_696 : (Jvm.Cond.methodLink "PersonSeedsLaw" (125 : Nat) ({ cls := "PersonSeedsModel", name := "entered", desc := "(Z)I" } : Jvm.MethodName)) ∈ lw_tbl := tw_of 696 (by decide +kernel)
theorem tw_697 : (Jvm.Cond.instanceMethod ({ cls := "PersonSeedsModel", name := "entered", desc := "(Z)I" } : Jvm.MethodName)) ∈ lw_tbl := tw_of 697 (by decide +kernel)
theorem tw_698 : (Jvm.Cond.selects "PersonSeedsModel" ({ cls := "PersonSeedsModel", name := "entered", desc := "(Z)I" } : Jvm.MethodName) ({ cls := "PersonSeedsModel", name := "entered", desc := "(Z)I" } : Jvm.MethodName)) ∈ lw_tbl := tw_of 698 (by decide +kernel)
theorem tw_699 : (Jvm.Cond.code ({ cls := "PersonSeedsModel", name := "entered", desc := "(Z)I" } : Jvm.MethodName) prog_7_method_31_code (2 : Nat) (Option.some Jvm.ClassFile.FieldType.int)) ∈ lw_tbl := tw_of 699 (by decide +kernel)
theorem tw_700 : (Jvm.Cond.arrayClass Jvm.ClassFile.FieldType.long) ∈ lw_tbl := tw_of 700 (by decide +kernel)
theorem tw_701 : (Jvm.Cond.sameMethod "java/lang/Throwable" "java/lang/Throwable" "fillInStackTrace" "(I)Ljava/lang/Throwable;") ∈ lw_tbl := tw_of 701 (by decide +kernel)
end
section
/-! 'selects' of the private methods -/
theorem ts_0 : Cond.selects "java/lang/Throwable" ({ cls := "java/lang/Throwable", name := "fillInStackTrace", desc := "(I)Ljava/lang/Throwable;" } : MethodName) ({ cls := "java/lang/Throwable", name := "fillInStackTrace", desc := "(I)Ljava/lang/Throwable;" } : MethodName) ∈ lw_tbl := List.mem_append_left _ (List.mem_map.mpr ⟨(({ cls := "java/lang/Throwable", name := "fillInStackTrace", desc := "(I)Ljava/lang/Throwable;" } : MethodName), _), List.mem_of_getElem? (i := 0) rfl, rfl⟩)
theorem ts_1 : Cond.selects "PersonSeeds$Rooms" ({ cls := "PersonSeeds$Rooms", name := "add", desc := "(I)I" } : MethodName) ({ cls := "PersonSeeds$Rooms", name := "add", desc := "(I)I" } : MethodName) ∈ lw_tbl := List.mem_append_left _ (List.mem_map.mpr ⟨(({ cls := "PersonSeeds$Rooms", name := "add", desc := "(I)I" } : MethodName), _), List.mem_of_getElem? (i := 1) rfl, rfl⟩)
theorem ts_2 : Cond.selects "PersonSeeds$Persons" ({ cls := "PersonSeeds$Persons", name := "plan", desc := "(I)V" } : MethodName) ({ cls := "PersonSeeds$Persons", name := "plan", desc := "(I)V" } : MethodName) ∈ lw_tbl := List.mem_append_left _ (List.mem_map.mpr ⟨(({ cls := "PersonSeeds$Persons", name := "plan", desc := "(I)V" } : MethodName), _), List.mem_of_getElem? (i := 2) rfl, rfl⟩)
theorem ts_3 : Cond.selects "PersonSeeds$Persons" ({ cls := "PersonSeeds$Persons", name := "drawn", desc := "(III)I" } : MethodName) ({ cls := "PersonSeeds$Persons", name := "drawn", desc := "(III)I" } : MethodName) ∈ lw_tbl := List.mem_append_left _ (List.mem_map.mpr ⟨(({ cls := "PersonSeeds$Persons", name := "drawn", desc := "(III)I" } : MethodName), _), List.mem_of_getElem? (i := 3) rfl, rfl⟩)
theorem ts_4 : Cond.selects "PersonSeeds" ({ cls := "PersonSeeds", name := "checkRoom", desc := "(I)V" } : MethodName) ({ cls := "PersonSeeds", name := "checkRoom", desc := "(I)V" } : MethodName) ∈ lw_tbl := List.mem_append_left _ (List.mem_map.mpr ⟨(({ cls := "PersonSeeds", name := "checkRoom", desc := "(I)V" } : MethodName), _), List.mem_of_getElem? (i := 4) rfl, rfl⟩)
theorem ts_5 : Cond.selects "PersonSeeds$Doors" ({ cls := "PersonSeeds$Doors", name := "add", desc := "(III)I" } : MethodName) ({ cls := "PersonSeeds$Doors", name := "add", desc := "(III)I" } : MethodName) ∈ lw_tbl := List.mem_append_left _ (List.mem_map.mpr ⟨(({ cls := "PersonSeeds$Doors", name := "add", desc := "(III)I" } : MethodName), _), List.mem_of_getElem? (i := 5) rfl, rfl⟩)
theorem ts_6 : Cond.selects "PersonSeeds$Doors" ({ cls := "PersonSeeds$Doors", name := "shortenWays", desc := "(II)V" } : MethodName) ({ cls := "PersonSeeds$Doors", name := "shortenWays", desc := "(II)V" } : MethodName) ∈ lw_tbl := List.mem_append_left _ (List.mem_map.mpr ⟨(({ cls := "PersonSeeds$Doors", name := "shortenWays", desc := "(II)V" } : MethodName), _), List.mem_of_getElem? (i := 6) rfl, rfl⟩)
theorem ts_7 : Cond.selects "PersonSeeds$Doors" ({ cls := "PersonSeeds$Doors", name := "stepsBetween", desc := "(II)I" } : MethodName) ({ cls := "PersonSeeds$Doors", name := "stepsBetween", desc := "(II)I" } : MethodName) ∈ lw_tbl := List.mem_append_left _ (List.mem_map.mpr ⟨(({ cls := "PersonSeeds$Doors", name := "stepsBetween", desc := "(II)I" } : MethodName), _), List.mem_of_getElem? (i := 7) rfl, rfl⟩)
theorem ts_8 : Cond.selects "PersonSeeds$Persons" ({ cls := "PersonSeeds$Persons", name := "add", desc := "(II)V" } : MethodName) ({ cls := "PersonSeeds$Persons", name := "add", desc := "(II)V" } : MethodName) ∈ lw_tbl := List.mem_append_left _ (List.mem_map.mpr ⟨(({ cls := "PersonSeeds$Persons", name := "add", desc := "(II)V" } : MethodName), _), List.mem_of_getElem? (i := 8) rfl, rfl⟩)
theorem ts_9 : Cond.selects "PersonSeeds" ({ cls := "PersonSeeds", name := "passMinute", desc := "()V" } : MethodName) ({ cls := "PersonSeeds", name := "passMinute", desc := "()V" } : MethodName) ∈ lw_tbl := List.mem_append_left _ (List.mem_map.mpr ⟨(({ cls := "PersonSeeds", name := "passMinute", desc := "()V" } : MethodName), _), List.mem_of_getElem? (i := 9) rfl, rfl⟩)
theorem ts_10 : Cond.selects "PersonSeeds$Doors" ({ cls := "PersonSeeds$Doors", name := "beginMinute", desc := "()V" } : MethodName) ({ cls := "PersonSeeds$Doors", name := "beginMinute", desc := "()V" } : MethodName) ∈ lw_tbl := List.mem_append_left _ (List.mem_map.mpr ⟨(({ cls := "PersonSeeds$Doors", name := "beginMinute", desc := "()V" } : MethodName), _), List.mem_of_getElem? (i := 10) rfl, rfl⟩)
theorem ts_11 : Cond.selects "PersonSeeds" ({ cls := "PersonSeeds", name := "tryStep", desc := "(I)V" } : MethodName) ({ cls := "PersonSeeds", name := "tryStep", desc := "(I)V" } : MethodName) ∈ lw_tbl := List.mem_append_left _ (List.mem_map.mpr ⟨(({ cls := "PersonSeeds", name := "tryStep", desc := "(I)V" } : MethodName), _), List.mem_of_getElem? (i := 11) rfl, rfl⟩)
theorem ts_12 : Cond.selects "PersonSeeds$Trails" ({ cls := "PersonSeeds$Trails", name := "placeNow", desc := "(I)I" } : MethodName) ({ cls := "PersonSeeds$Trails", name := "placeNow", desc := "(I)I" } : MethodName) ∈ lw_tbl := List.mem_append_left _ (List.mem_map.mpr ⟨(({ cls := "PersonSeeds$Trails", name := "placeNow", desc := "(I)I" } : MethodName), _), List.mem_of_getElem? (i := 12) rfl, rfl⟩)
theorem ts_13 : Cond.selects "PersonSeeds$Persons" ({ cls := "PersonSeeds$Persons", name := "wants", desc := "(II)I" } : MethodName) ({ cls := "PersonSeeds$Persons", name := "wants", desc := "(II)I" } : MethodName) ∈ lw_tbl := List.mem_append_left _ (List.mem_map.mpr ⟨(({ cls := "PersonSeeds$Persons", name := "wants", desc := "(II)I" } : MethodName), _), List.mem_of_getElem? (i := 13) rfl, rfl⟩)
theorem ts_14 : Cond.selects "PersonSeeds" ({ cls := "PersonSeeds", name := "tryEntrance", desc := "(I)V" } : MethodName) ({ cls := "PersonSeeds", name := "tryEntrance", desc := "(I)V" } : MethodName) ∈ lw_tbl := List.mem_append_left _ (List.mem_map.mpr ⟨(({ cls := "PersonSeeds", name := "tryEntrance", desc := "(I)V" } : MethodName), _), List.mem_of_getElem? (i := 14) rfl, rfl⟩)
theorem ts_15 : Cond.selects "PersonSeeds$Rooms" ({ cls := "PersonSeeds$Rooms", name := "hasSpace", desc := "(I)Z" } : MethodName) ({ cls := "PersonSeeds$Rooms", name := "hasSpace", desc := "(I)Z" } : MethodName) ∈ lw_tbl := List.mem_append_left _ (List.mem_map.mpr ⟨(({ cls := "PersonSeeds$Rooms", name := "hasSpace", desc := "(I)Z" } : MethodName), _), List.mem_of_getElem? (i := 15) rfl, rfl⟩)
theorem ts_16 : Cond.selects "PersonSeeds$Trails" ({ cls := "PersonSeeds$Trails", name := "add", desc := "(III)V" } : MethodName) ({ cls := "PersonSeeds$Trails", name := "add", desc := "(III)V" } : MethodName) ∈ lw_tbl := List.mem_append_left _ (List.mem_map.mpr ⟨(({ cls := "PersonSeeds$Trails", name := "add", desc := "(III)V" } : MethodName), _), List.mem_of_getElem? (i := 16) rfl, rfl⟩)
theorem ts_17 : Cond.selects "PersonSeeds" ({ cls := "PersonSeeds", name := "tryDoor", desc := "(III)V" } : MethodName) ({ cls := "PersonSeeds", name := "tryDoor", desc := "(III)V" } : MethodName) ∈ lw_tbl := List.mem_append_left _ (List.mem_map.mpr ⟨(({ cls := "PersonSeeds", name := "tryDoor", desc := "(III)V" } : MethodName), _), List.mem_of_getElem? (i := 17) rfl, rfl⟩)
theorem ts_18 : Cond.selects "PersonSeeds$Doors" ({ cls := "PersonSeeds$Doors", name := "towards", desc := "(II)I" } : MethodName) ({ cls := "PersonSeeds$Doors", name := "towards", desc := "(II)I" } : MethodName) ∈ lw_tbl := List.mem_append_left _ (List.mem_map.mpr ⟨(({ cls := "PersonSeeds$Doors", name := "towards", desc := "(II)I" } : MethodName), _), List.mem_of_getElem? (i := 18) rfl, rfl⟩)
theorem ts_19 : Cond.selects "PersonSeeds$Doors" ({ cls := "PersonSeeds$Doors", name := "behind", desc := "(II)I" } : MethodName) ({ cls := "PersonSeeds$Doors", name := "behind", desc := "(II)I" } : MethodName) ∈ lw_tbl := List.mem_append_left _ (List.mem_map.mpr ⟨(({ cls := "PersonSeeds$Doors", name := "behind", desc := "(II)I" } : MethodName), _), List.mem_of_getElem? (i := 19) rfl, rfl⟩)
theorem ts_20 : Cond.selects "PersonSeeds$Doors" ({ cls := "PersonSeeds$Doors", name := "isFree", desc := "(I)Z" } : MethodName) ({ cls := "PersonSeeds$Doors", name := "isFree", desc := "(I)Z" } : MethodName) ∈ lw_tbl := List.mem_append_left _ (List.mem_map.mpr ⟨(({ cls := "PersonSeeds$Doors", name := "isFree", desc := "(I)Z" } : MethodName), _), List.mem_of_getElem? (i := 20) rfl, rfl⟩)
theorem ts_21 : Cond.selects "PersonSeeds$Doors" ({ cls := "PersonSeeds$Doors", name := "pass", desc := "(II)V" } : MethodName) ({ cls := "PersonSeeds$Doors", name := "pass", desc := "(II)V" } : MethodName) ∈ lw_tbl := List.mem_append_left _ (List.mem_map.mpr ⟨(({ cls := "PersonSeeds$Doors", name := "pass", desc := "(II)V" } : MethodName), _), List.mem_of_getElem? (i := 21) rfl, rfl⟩)
theorem ts_22 : Cond.selects "PersonSeeds" ({ cls := "PersonSeeds", name := "goOut", desc := "(I)V" } : MethodName) ({ cls := "PersonSeeds", name := "goOut", desc := "(I)V" } : MethodName) ∈ lw_tbl := List.mem_append_left _ (List.mem_map.mpr ⟨(({ cls := "PersonSeeds", name := "goOut", desc := "(I)V" } : MethodName), _), List.mem_of_getElem? (i := 22) rfl, rfl⟩)
theorem ts_23 : Cond.selects "PersonSeeds$Rooms" ({ cls := "PersonSeeds$Rooms", name := "endMinute", desc := "()V" } : MethodName) ({ cls := "PersonSeeds$Rooms", name := "endMinute", desc := "()V" } : MethodName) ∈ lw_tbl := List.mem_append_left _ (List.mem_map.mpr ⟨(({ cls := "PersonSeeds$Rooms", name := "endMinute", desc := "()V" } : MethodName), _), List.mem_of_getElem? (i := 23) rfl, rfl⟩)
theorem ts_24 : Cond.selects "PersonSeeds" ({ cls := "PersonSeeds", name := "checkPerson", desc := "(I)V" } : MethodName) ({ cls := "PersonSeeds", name := "checkPerson", desc := "(I)V" } : MethodName) ∈ lw_tbl := List.mem_append_left _ (List.mem_map.mpr ⟨(({ cls := "PersonSeeds", name := "checkPerson", desc := "(I)V" } : MethodName), _), List.mem_of_getElem? (i := 24) rfl, rfl⟩)
theorem ts_25 : Cond.selects "PersonSeeds" ({ cls := "PersonSeeds", name := "checkOver", desc := "(I)V" } : MethodName) ({ cls := "PersonSeeds", name := "checkOver", desc := "(I)V" } : MethodName) ∈ lw_tbl := List.mem_append_left _ (List.mem_map.mpr ⟨(({ cls := "PersonSeeds", name := "checkOver", desc := "(I)V" } : MethodName), _), List.mem_of_getElem? (i := 25) rfl, rfl⟩)
theorem ts_26 : Cond.selects "PersonSeeds$Trails" ({ cls := "PersonSeeds$Trails", name := "placeBehind", desc := "(II)I" } : MethodName) ({ cls := "PersonSeeds$Trails", name := "placeBehind", desc := "(II)I" } : MethodName) ∈ lw_tbl := List.mem_append_left _ (List.mem_map.mpr ⟨(({ cls := "PersonSeeds$Trails", name := "placeBehind", desc := "(II)I" } : MethodName), _), List.mem_of_getElem? (i := 26) rfl, rfl⟩)
theorem ts_27 : Cond.selects "PersonSeeds$Trails" ({ cls := "PersonSeeds$Trails", name := "firstJoining", desc := "(II)I" } : MethodName) ({ cls := "PersonSeeds$Trails", name := "firstJoining", desc := "(II)I" } : MethodName) ∈ lw_tbl := List.mem_append_left _ (List.mem_map.mpr ⟨(({ cls := "PersonSeeds$Trails", name := "firstJoining", desc := "(II)I" } : MethodName), _), List.mem_of_getElem? (i := 27) rfl, rfl⟩)
theorem ts_28 : Cond.selects "PersonSeedsModel" ({ cls := "PersonSeedsModel", name := "may", desc := "(ZZ)Z" } : MethodName) ({ cls := "PersonSeedsModel", name := "may", desc := "(ZZ)Z" } : MethodName) ∈ lw_tbl := List.mem_append_left _ (List.mem_map.mpr ⟨(({ cls := "PersonSeedsModel", name := "may", desc := "(ZZ)Z" } : MethodName), _), List.mem_of_getElem? (i := 28) rfl, rfl⟩)
theorem ts_29 : Cond.selects "PersonSeedsModel" ({ cls := "PersonSeedsModel", name := "isRoom", desc := "(I)Z" } : MethodName) ({ cls := "PersonSeedsModel", name := "isRoom", desc := "(I)Z" } : MethodName) ∈ lw_tbl := List.mem_append_left _ (List.mem_map.mpr ⟨(({ cls := "PersonSeedsModel", name := "isRoom", desc := "(I)Z" } : MethodName), _), List.mem_of_getElem? (i := 29) rfl, rfl⟩)
theorem ts_30 : Cond.selects "PersonSeedsModel" ({ cls := "PersonSeedsModel", name := "shorten", desc := "(II)V" } : MethodName) ({ cls := "PersonSeedsModel", name := "shorten", desc := "(II)V" } : MethodName) ∈ lw_tbl := List.mem_append_left _ (List.mem_map.mpr ⟨(({ cls := "PersonSeedsModel", name := "shorten", desc := "(II)V" } : MethodName), _), List.mem_of_getElem? (i := 30) rfl, rfl⟩)
theorem ts_31 : Cond.selects "PersonSeedsModel" ({ cls := "PersonSeedsModel", name := "drawn", desc := "(III)I" } : MethodName) ({ cls := "PersonSeedsModel", name := "drawn", desc := "(III)I" } : MethodName) ∈ lw_tbl := List.mem_append_left _ (List.mem_map.mpr ⟨(({ cls := "PersonSeedsModel", name := "drawn", desc := "(III)I" } : MethodName), _), List.mem_of_getElem? (i := 31) rfl, rfl⟩)
theorem ts_32 : Cond.selects "PersonSeedsModel" ({ cls := "PersonSeedsModel", name := "oneMinute", desc := "()V" } : MethodName) ({ cls := "PersonSeedsModel", name := "oneMinute", desc := "()V" } : MethodName) ∈ lw_tbl := List.mem_append_left _ (List.mem_map.mpr ⟨(({ cls := "PersonSeedsModel", name := "oneMinute", desc := "()V" } : MethodName), _), List.mem_of_getElem? (i := 32) rfl, rfl⟩)
theorem ts_33 : Cond.selects "PersonSeedsModel" ({ cls := "PersonSeedsModel", name := "step", desc := "(I)V" } : MethodName) ({ cls := "PersonSeedsModel", name := "step", desc := "(I)V" } : MethodName) ∈ lw_tbl := List.mem_append_left _ (List.mem_map.mpr ⟨(({ cls := "PersonSeedsModel", name := "step", desc := "(I)V" } : MethodName), _), List.mem_of_getElem? (i := 33) rfl, rfl⟩)
theorem ts_34 : Cond.selects "PersonSeedsModel" ({ cls := "PersonSeedsModel", name := "wants", desc := "(I)I" } : MethodName) ({ cls := "PersonSeedsModel", name := "wants", desc := "(I)I" } : MethodName) ∈ lw_tbl := List.mem_append_left _ (List.mem_map.mpr ⟨(({ cls := "PersonSeedsModel", name := "wants", desc := "(I)I" } : MethodName), _), List.mem_of_getElem? (i := 34) rfl, rfl⟩)
theorem ts_35 : Cond.selects "PersonSeedsModel" ({ cls := "PersonSeedsModel", name := "tell", desc := "(II)I" } : MethodName) ({ cls := "PersonSeedsModel", name := "tell", desc := "(II)I" } : MethodName) ∈ lw_tbl := List.mem_append_left _ (List.mem_map.mpr ⟨(({ cls := "PersonSeedsModel", name := "tell", desc := "(II)I" } : MethodName), _), List.mem_of_getElem? (i := 35) rfl, rfl⟩)
theorem ts_36 : Cond.selects "PersonSeedsModel" ({ cls := "PersonSeedsModel", name := "goes", desc := "(II)Z" } : MethodName) ({ cls := "PersonSeedsModel", name := "goes", desc := "(II)Z" } : MethodName) ∈ lw_tbl := List.mem_append_left _ (List.mem_map.mpr ⟨(({ cls := "PersonSeedsModel", name := "goes", desc := "(II)Z" } : MethodName), _), List.mem_of_getElem? (i := 36) rfl, rfl⟩)
theorem ts_37 : Cond.selects "PersonSeedsModel" ({ cls := "PersonSeedsModel", name := "throughDoor", desc := "(II)V" } : MethodName) ({ cls := "PersonSeedsModel", name := "throughDoor", desc := "(II)V" } : MethodName) ∈ lw_tbl := List.mem_append_left _ (List.mem_map.mpr ⟨(({ cls := "PersonSeedsModel", name := "throughDoor", desc := "(II)V" } : MethodName), _), List.mem_of_getElem? (i := 37) rfl, rfl⟩)
theorem ts_38 : Cond.selects "PersonSeedsModel" ({ cls := "PersonSeedsModel", name := "doorOf", desc := "(II)I" } : MethodName) ({ cls := "PersonSeedsModel", name := "doorOf", desc := "(II)I" } : MethodName) ∈ lw_tbl := List.mem_append_left _ (List.mem_map.mpr ⟨(({ cls := "PersonSeedsModel", name := "doorOf", desc := "(II)I" } : MethodName), _), List.mem_of_getElem? (i := 38) rfl, rfl⟩)
theorem ts_39 : Cond.selects "PersonSeedsModel" ({ cls := "PersonSeedsModel", name := "isPerson", desc := "(I)Z" } : MethodName) ({ cls := "PersonSeedsModel", name := "isPerson", desc := "(I)Z" } : MethodName) ∈ lw_tbl := List.mem_append_left _ (List.mem_map.mpr ⟨(({ cls := "PersonSeedsModel", name := "isPerson", desc := "(I)Z" } : MethodName), _), List.mem_of_getElem? (i := 39) rfl, rfl⟩)
theorem ts_40 : Cond.selects "PersonSeedsModel" ({ cls := "PersonSeedsModel", name := "isOver", desc := "(I)Z" } : MethodName) ({ cls := "PersonSeedsModel", name := "isOver", desc := "(I)Z" } : MethodName) ∈ lw_tbl := List.mem_append_left _ (List.mem_map.mpr ⟨(({ cls := "PersonSeedsModel", name := "isOver", desc := "(I)Z" } : MethodName), _), List.mem_of_getElem? (i := 40) rfl, rfl⟩)
end
section
/-! methods: code and name; classes: fields in the order of the slots -/
abbrev c_PS_init : ByteArray := prog_1_method_1_code
abbrev y_PS_init : MethodName := { cls := "PersonSeeds", name := "<init>", desc := "(J)V" }
abbrev c_PS_arrives : ByteArray := prog_1_method_4_code
abbrev y_PS_arrives : MethodName := { cls := "PersonSeeds", name := "arrives", desc := "(II)I" }
abbrev c_PS_at : ByteArray := prog_1_method_8_code
abbrev y_PS_at : MethodName := { cls := "PersonSeeds", name := "at", desc := "(I)I" }
abbrev c_PS_checkBounds : ByteArray := prog_1_method_20_code
abbrev y_PS_checkBounds : MethodName := { cls := "PersonSeeds", name := "checkBounds", desc := "(III)V" }
abbrev c_PS_checkDifferent : ByteArray := prog_1_method_21_code
abbrev y_PS_checkDifferent : MethodName := { cls := "PersonSeeds", name := "checkDifferent", desc := "(II)V" }
abbrev c_PS_checkOver : ByteArray := prog_1_method_19_code
abbrev y_PS_checkOver : MethodName := { cls := "PersonSeeds", name := "checkOver", desc := "(I)V" }
abbrev c_PS_checkPerson : ByteArray := prog_1_method_18_code
abbrev y_PS_checkPerson : MethodName := { cls := "PersonSeeds", name := "checkPerson", desc := "(I)V" }
abbrev c_PS_checkRoom : ByteArray := prog_1_method_17_code
abbrev y_PS_checkRoom : MethodName := { cls := "PersonSeeds", name := "checkRoom", desc := "(I)V" }
abbrev c_PS_checkState : ByteArray := prog_1_method_22_code
abbrev y_PS_checkState : MethodName := { cls := "PersonSeeds", name := "checkState", desc := "(Z)V" }
abbrev c_PS_distance : ByteArray := prog_1_method_14_code
abbrev y_PS_distance : MethodName := { cls := "PersonSeeds", name := "distance", desc := "(II)I" }
abbrev c_PS_door : ByteArray := prog_1_method_3_code
abbrev y_PS_door : MethodName := { cls := "PersonSeeds", name := "door", desc := "(III)I" }
abbrev c_PS_draw : ByteArray := prog_1_method_5_code
abbrev y_PS_draw : MethodName := { cls := "PersonSeeds", name := "draw", desc := "(III)I" }
abbrev c_PS_entered : ByteArray := prog_1_method_16_code
abbrev y_PS_entered : MethodName := { cls := "PersonSeeds", name := "entered", desc := "(Z)I" }
abbrev c_PS_goOut : ByteArray := prog_1_method_26_code
abbrev y_PS_goOut : MethodName := { cls := "PersonSeeds", name := "goOut", desc := "(I)V" }
abbrev c_PS_in : ByteArray := prog_1_method_11_code
abbrev y_PS_in : MethodName := { cls := "PersonSeeds", name := "in", desc := "(II)I" }
abbrev c_PS_inThen : ByteArray := prog_1_method_12_code
abbrev y_PS_inThen : MethodName := { cls := "PersonSeeds", name := "inThen", desc := "(II)I" }
abbrev c_PS_met : ByteArray := prog_1_method_15_code
abbrev y_PS_met : MethodName := { cls := "PersonSeeds", name := "met", desc := "(II)I" }
abbrev c_PS_passMinute : ByteArray := prog_1_method_23_code
abbrev y_PS_passMinute : MethodName := { cls := "PersonSeeds", name := "passMinute", desc := "()V" }
abbrev c_PS_person : ByteArray := prog_1_method_7_code
abbrev y_PS_person : MethodName := { cls := "PersonSeeds", name := "person", desc := "(II)I" }
abbrev c_PS_room : ByteArray := prog_1_method_2_code
abbrev y_PS_room : MethodName := { cls := "PersonSeeds", name := "room", desc := "(I)I" }
abbrev c_PS_run : ByteArray := prog_1_method_6_code
abbrev y_PS_run : MethodName := { cls := "PersonSeeds", name := "run", desc := "(I)I" }
abbrev c_PS_through : ByteArray := prog_1_method_13_code
abbrev y_PS_through : MethodName := { cls := "PersonSeeds", name := "through", desc := "(IZ)I" }
abbrev c_PS_tryDoor : ByteArray := prog_1_method_27_code
abbrev y_PS_tryDoor : MethodName := { cls := "PersonSeeds", name := "tryDoor", desc := "(III)V" }
abbrev c_PS_tryEntrance : ByteArray := prog_1_method_25_code
abbrev y_PS_tryEntrance : MethodName := { cls := "PersonSeeds", name := "tryEntrance", desc := "(I)V" }
abbrev c_PS_tryStep : ByteArray := prog_1_method_24_code
abbrev y_PS_tryStep : MethodName := { cls := "PersonSeeds", name := "tryStep", desc := "(I)V" }
abbrev c_PS_waited : ByteArray := prog_1_method_10_code
abbrev y_PS_waited : MethodName := { cls := "PersonSeeds", name := "waited", desc := "(I)I" }
abbrev c_PS_was : ByteArray := prog_1_method_9_code
abbrev y_PS_was : MethodName := { cls := "PersonSeeds", name := "was", desc := "(II)I" }
abbrev c_Do_init : ByteArray := prog_2_method_1_code
abbrev y_Do_init : MethodName := { cls := "PersonSeeds$Doors", name := "<init>", desc := "()V" }
abbrev c_Do_add : ByteArray := prog_2_method_2_code
abbrev y_Do_add : MethodName := { cls := "PersonSeeds$Doors", name := "add", desc := "(III)I" }
abbrev c_Do_beginMinute : ByteArray := prog_2_method_7_code
abbrev y_Do_beginMinute : MethodName := { cls := "PersonSeeds$Doors", name := "beginMinute", desc := "()V" }
abbrev c_Do_behind : ByteArray := prog_2_method_5_code
abbrev y_Do_behind : MethodName := { cls := "PersonSeeds$Doors", name := "behind", desc := "(II)I" }
abbrev c_Do_isFree : ByteArray := prog_2_method_8_code
abbrev y_Do_isFree : MethodName := { cls := "PersonSeeds$Doors", name := "isFree", desc := "(I)Z" }
abbrev c_Do_pass : ByteArray := prog_2_method_9_code
abbrev y_Do_pass : MethodName := { cls := "PersonSeeds$Doors", name := "pass", desc := "(II)V" }
abbrev c_Do_shortenWays : ByteArray := prog_2_method_3_code
abbrev y_Do_shortenWays : MethodName := { cls := "PersonSeeds$Doors", name := "shortenWays", desc := "(II)V" }
abbrev c_Do_stepsBetween : ByteArray := prog_2_method_4_code
abbrev y_Do_stepsBetween : MethodName := { cls := "PersonSeeds$Doors", name := "stepsBetween", desc := "(II)I" }
abbrev c_Do_towards : ByteArray := prog_2_method_6_code
abbrev y_Do_towards : MethodName := { cls := "PersonSeeds$Doors", name := "towards", desc := "(II)I" }
abbrev c_Pe_init : ByteArray := prog_3_method_1_code
abbrev y_Pe_init : MethodName := { cls := "PersonSeeds$Persons", name := "<init>", desc := "(J)V" }
abbrev c_Pe_add : ByteArray := prog_3_method_2_code
abbrev y_Pe_add : MethodName := { cls := "PersonSeeds$Persons", name := "add", desc := "(II)V" }
abbrev c_Pe_drawn : ByteArray := prog_3_method_4_code
abbrev y_Pe_drawn : MethodName := { cls := "PersonSeeds$Persons", name := "drawn", desc := "(III)I" }
abbrev c_Pe_plan : ByteArray := prog_3_method_3_code
abbrev y_Pe_plan : MethodName := { cls := "PersonSeeds$Persons", name := "plan", desc := "(I)V" }
abbrev c_Pe_wants : ByteArray := prog_3_method_5_code
abbrev y_Pe_wants : MethodName := { cls := "PersonSeeds$Persons", name := "wants", desc := "(II)I" }
abbrev c_Ro_init : ByteArray := prog_4_method_1_code
abbrev y_Ro_init : MethodName := { cls := "PersonSeeds$Rooms", name := "<init>", desc := "()V" }
abbrev c_Ro_add : ByteArray := prog_4_method_2_code
abbrev y_Ro_add : MethodName := { cls := "PersonSeeds$Rooms", name := "add", desc := "(I)I" }
abbrev c_Ro_endMinute : ByteArray := prog_4_method_4_code
abbrev y_Ro_endMinute : MethodName := { cls := "PersonSeeds$Rooms", name := "endMinute", desc := "()V" }
abbrev c_Ro_hasSpace : ByteArray := prog_4_method_3_code
abbrev y_Ro_hasSpace : MethodName := { cls := "PersonSeeds$Rooms", name := "hasSpace", desc := "(I)Z" }
abbrev c_Tr_init : ByteArray := prog_5_method_1_code
abbrev y_Tr_init : MethodName := { cls := "PersonSeeds$Trails", name := "<init>", desc := "()V" }
abbrev c_Tr_add : ByteArray := prog_5_method_2_code
abbrev y_Tr_add : MethodName := { cls := "PersonSeeds$Trails", name := "add", desc := "(III)V" }
abbrev c_Tr_firstJoining : ByteArray := prog_5_method_5_code
abbrev y_Tr_firstJoining : MethodName := { cls := "PersonSeeds$Trails", name := "firstJoining", desc := "(II)I" }
abbrev c_Tr_placeBehind : ByteArray := prog_5_method_4_code
abbrev y_Tr_placeBehind : MethodName := { cls := "PersonSeeds$Trails", name := "placeBehind", desc := "(II)I" }
abbrev c_Tr_placeNow : ByteArray := prog_5_method_3_code
abbrev y_Tr_placeNow : MethodName := { cls := "PersonSeeds$Trails", name := "placeNow", desc := "(I)I" }
abbrev c_La_arrives : ByteArray := method_5_code
abbrev y_La_arrives : MethodName := { cls := "PersonSeedsLaw", name := "arrives", desc := "(LPersonSeeds;II[J)I" }
abbrev c_La_at : ByteArray := method_9_code
abbrev y_La_at : MethodName := { cls := "PersonSeedsLaw", name := "at", desc := "(LPersonSeeds;I[J)I" }
abbrev c_La_cell : ByteArray := method_2_code
abbrev y_La_cell : MethodName := { cls := "PersonSeedsLaw", name := "cell", desc := "([II)I" }
abbrev c_La_distance : ByteArray := method_15_code
abbrev y_La_distance : MethodName := { cls := "PersonSeedsLaw", name := "distance", desc := "(LPersonSeeds;II[J)I" }
abbrev c_La_door : ByteArray := method_4_code
abbrev y_La_door : MethodName := { cls := "PersonSeedsLaw", name := "door", desc := "(LPersonSeeds;III[J)I" }
abbrev c_La_draw : ByteArray := method_6_code
abbrev y_La_draw : MethodName := { cls := "PersonSeedsLaw", name := "draw", desc := "(LPersonSeeds;III[J)I" }
abbrev c_La_in : ByteArray := method_12_code
abbrev y_La_in : MethodName := { cls := "PersonSeedsLaw", name := "in", desc := "(LPersonSeeds;II[J)I" }
abbrev c_La_inThen : ByteArray := method_13_code
abbrev y_La_inThen : MethodName := { cls := "PersonSeedsLaw", name := "inThen", desc := "(LPersonSeeds;II[J)I" }
abbrev c_La_met : ByteArray := method_16_code
abbrev y_La_met : MethodName := { cls := "PersonSeedsLaw", name := "met", desc := "(LPersonSeeds;II[J)I" }
abbrev c_La_person : ByteArray := method_8_code
abbrev y_La_person : MethodName := { cls := "PersonSeedsLaw", name := "person", desc := "(LPersonSeeds;II[J)I" }
abbrev c_La_room : ByteArray := method_3_code
abbrev y_La_room : MethodName := { cls := "PersonSeedsLaw", name := "room", desc := "(LPersonSeeds;I[J)I" }
abbrev c_La_run : ByteArray := method_7_code
abbrev y_La_run : MethodName := { cls := "PersonSeedsLaw", name := "run", desc := "(LPersonSeeds;I[J)I" }
abbrev c_La_through : ByteArray := method_14_code
abbrev y_La_through : MethodName := { cls := "PersonSeedsLaw", name := "through", desc := "(LPersonSeeds;IZ[J)I" }
abbrev c_La_waited : ByteArray := method_11_code
abbrev y_La_waited : MethodName := { cls := "PersonSeedsLaw", name := "waited", desc := "(LPersonSeeds;I[J)I" }
abbrev c_La_was : ByteArray := method_10_code
abbrev y_La_was : MethodName := { cls := "PersonSeedsLaw", name := "was", desc := "(LPersonSeeds;II[J)I" }
abbrev c_Mo_init : ByteArray := prog_7_method_1_code
abbrev y_Mo_init : MethodName := { cls := "PersonSeedsModel", name := "<init>", desc := "(J)V" }
abbrev c_Mo_arrives : ByteArray := prog_7_method_10_code
abbrev y_Mo_arrives : MethodName := { cls := "PersonSeedsModel", name := "arrives", desc := "(II)I" }
abbrev c_Mo_at : ByteArray := prog_7_method_22_code
abbrev y_Mo_at : MethodName := { cls := "PersonSeedsModel", name := "at", desc := "(I)I" }
abbrev c_Mo_distance : ByteArray := prog_7_method_29_code
abbrev y_Mo_distance : MethodName := { cls := "PersonSeedsModel", name := "distance", desc := "(II)I" }
abbrev c_Mo_door : ByteArray := prog_7_method_8_code
abbrev y_Mo_door : MethodName := { cls := "PersonSeedsModel", name := "door", desc := "(III)I" }
abbrev c_Mo_doorOf : ByteArray := prog_7_method_16_code
abbrev y_Mo_doorOf : MethodName := { cls := "PersonSeedsModel", name := "doorOf", desc := "(II)I" }
abbrev c_Mo_draw : ByteArray := prog_7_method_12_code
abbrev y_Mo_draw : MethodName := { cls := "PersonSeedsModel", name := "draw", desc := "(III)I" }
abbrev c_Mo_drawn : ByteArray := prog_7_method_11_code
abbrev y_Mo_drawn : MethodName := { cls := "PersonSeedsModel", name := "drawn", desc := "(III)I" }
abbrev c_Mo_entered : ByteArray := prog_7_method_31_code
abbrev y_Mo_entered : MethodName := { cls := "PersonSeedsModel", name := "entered", desc := "(Z)I" }
abbrev c_Mo_goes : ByteArray := prog_7_method_15_code
abbrev y_Mo_goes : MethodName := { cls := "PersonSeedsModel", name := "goes", desc := "(II)Z" }
abbrev c_Mo_in : ByteArray := prog_7_method_26_code
abbrev y_Mo_in : MethodName := { cls := "PersonSeedsModel", name := "in", desc := "(II)I" }
abbrev c_Mo_inThen : ByteArray := prog_7_method_27_code
abbrev y_Mo_inThen : MethodName := { cls := "PersonSeedsModel", name := "inThen", desc := "(II)I" }
abbrev c_Mo_isOver : ByteArray := prog_7_method_23_code
abbrev y_Mo_isOver : MethodName := { cls := "PersonSeedsModel", name := "isOver", desc := "(I)Z" }
abbrev c_Mo_isPerson : ByteArray := prog_7_method_6_code
abbrev y_Mo_isPerson : MethodName := { cls := "PersonSeedsModel", name := "isPerson", desc := "(I)Z" }
abbrev c_Mo_isRoom : ByteArray := prog_7_method_5_code
abbrev y_Mo_isRoom : MethodName := { cls := "PersonSeedsModel", name := "isRoom", desc := "(I)Z" }
abbrev c_Mo_may : ByteArray := prog_7_method_3_code
abbrev y_Mo_may : MethodName := { cls := "PersonSeedsModel", name := "may", desc := "(ZZ)Z" }
abbrev c_Mo_met : ByteArray := prog_7_method_30_code
abbrev y_Mo_met : MethodName := { cls := "PersonSeedsModel", name := "met", desc := "(II)I" }
abbrev c_Mo_oneMinute : ByteArray := prog_7_method_19_code
abbrev y_Mo_oneMinute : MethodName := { cls := "PersonSeedsModel", name := "oneMinute", desc := "()V" }
abbrev c_Mo_person : ByteArray := prog_7_method_21_code
abbrev y_Mo_person : MethodName := { cls := "PersonSeedsModel", name := "person", desc := "(II)I" }
abbrev c_Mo_room : ByteArray := prog_7_method_7_code
abbrev y_Mo_room : MethodName := { cls := "PersonSeedsModel", name := "room", desc := "(I)I" }
abbrev c_Mo_run : ByteArray := prog_7_method_20_code
abbrev y_Mo_run : MethodName := { cls := "PersonSeedsModel", name := "run", desc := "(I)I" }
abbrev c_Mo_shorten : ByteArray := prog_7_method_9_code
abbrev y_Mo_shorten : MethodName := { cls := "PersonSeedsModel", name := "shorten", desc := "(II)V" }
abbrev c_Mo_step : ByteArray := prog_7_method_18_code
abbrev y_Mo_step : MethodName := { cls := "PersonSeedsModel", name := "step", desc := "(I)V" }
abbrev c_Mo_tell : ByteArray := prog_7_method_13_code
abbrev y_Mo_tell : MethodName := { cls := "PersonSeedsModel", name := "tell", desc := "(II)I" }
abbrev c_Mo_through : ByteArray := prog_7_method_28_code
abbrev y_Mo_through : MethodName := { cls := "PersonSeedsModel", name := "through", desc := "(IZ)I" }
abbrev c_Mo_throughDoor : ByteArray := prog_7_method_17_code
abbrev y_Mo_throughDoor : MethodName := { cls := "PersonSeedsModel", name := "throughDoor", desc := "(II)V" }
abbrev c_Mo_thrown : ByteArray := prog_7_method_2_code
abbrev y_Mo_thrown : MethodName := { cls := "PersonSeedsModel", name := "thrown", desc := "()I" }
abbrev c_Mo_waited : ByteArray := prog_7_method_25_code
abbrev y_Mo_waited : MethodName := { cls := "PersonSeedsModel", name := "waited", desc := "(I)I" }
abbrev c_Mo_wants : ByteArray := prog_7_method_14_code
abbrev y_Mo_wants : MethodName := { cls := "PersonSeedsModel", name := "wants", desc := "(I)I" }
abbrev c_Mo_was : ByteArray := prog_7_method_24_code
abbrev y_Mo_was : MethodName := { cls := "PersonSeedsModel", name := "was", desc := "(II)I" }
abbrev c_Mo_within : ByteArray := prog_7_method_4_code
abbrev y_Mo_within : MethodName := { cls := "PersonSeedsModel", name := "within", desc := "(JJJ)Z" }
abbrev c_Ar_fill : ByteArray := prog_15_method_103_code
abbrev y_Ar_fill : MethodName := { cls := "java/util/Arrays", name := "fill", desc := "([II)V" }
def T_PS : u_T := fun k => match k with
  | 0 => ("PersonSeeds", "rooms", "LPersonSeeds$Rooms;", true)
  | 1 => ("PersonSeeds", "doors", "LPersonSeeds$Doors;", true)
  | 2 => ("PersonSeeds", "trails", "LPersonSeeds$Trails;", true)
  | 3 => ("PersonSeeds", "persons", "LPersonSeeds$Persons;", true)
  | 4 => ("PersonSeeds", "minute", "I", false)
  | 5 => ("PersonSeeds", "cameIn", "I", false)
  | _ => ("PersonSeeds", "wentOut", "I", false)
def ty_PS : Nat → FieldType := fun k => match k with
  | 0 => .object "PersonSeeds$Rooms"
  | 1 => .object "PersonSeeds$Doors"
  | 2 => .object "PersonSeeds$Trails"
  | 3 => .object "PersonSeeds$Persons"
  | 4 => .int
  | 5 => .int
  | _ => .int
theorem n_PS : ∀ a, a < 7 → ∀ b, b < 7 → a ≠ b → (T_PS a).2.1 ≠ (T_PS b).2.1 := by decide +kernel
theorem tyo_PS : ∀ k, k < 7 → parseFieldDescriptor (T_PS k).2.2.1 = some (ty_PS k) := by decide +kernel
theorem iw_PS : ∀ w ∈ u_ws "PersonSeeds" T_PS 7, w ∈ lw_tbl ∧ goodWord w = true := by decide +kernel
def T_Ro : u_T := fun k => match k with
  | 0 => ("PersonSeeds$Rooms", "count", "I", false)
  | 1 => ("PersonSeeds$Rooms", "cells", "[I", true)
  | 2 => ("PersonSeeds$Rooms", "inside", "[I", true)
  | 3 => ("PersonSeeds$Rooms", "most", "[I", true)
  | _ => ("PersonSeeds$Rooms", "fullEnds", "[I", true)
def ty_Ro : Nat → FieldType := fun k => match k with
  | 0 => .int
  | 1 => .array .int
  | 2 => .array .int
  | 3 => .array .int
  | _ => .array .int
theorem n_Ro : ∀ a, a < 5 → ∀ b, b < 5 → a ≠ b → (T_Ro a).2.1 ≠ (T_Ro b).2.1 := by decide +kernel
theorem tyo_Ro : ∀ k, k < 5 → parseFieldDescriptor (T_Ro k).2.2.1 = some (ty_Ro k) := by decide +kernel
theorem iw_Ro : ∀ w ∈ u_ws "PersonSeeds$Rooms" T_Ro 5, w ∈ lw_tbl ∧ goodWord w = true := by decide +kernel
def T_Do : u_T := fun k => match k with
  | 0 => ("PersonSeeds$Doors", "count", "I", false)
  | 1 => ("PersonSeeds$Doors", "near", "[I", true)
  | 2 => ("PersonSeeds$Doors", "far", "[I", true)
  | 3 => ("PersonSeeds$Doors", "width", "[I", true)
  | 4 => ("PersonSeeds$Doors", "wentOn", "[I", true)
  | 5 => ("PersonSeeds$Doors", "wentBack", "[I", true)
  | 6 => ("PersonSeeds$Doors", "wentNow", "[I", true)
  | _ => ("PersonSeeds$Doors", "steps", "[I", true)
def ty_Do : Nat → FieldType := fun k => match k with
  | 0 => .int
  | 1 => .array .int
  | 2 => .array .int
  | 3 => .array .int
  | 4 => .array .int
  | 5 => .array .int
  | 6 => .array .int
  | _ => .array .int
theorem n_Do : ∀ a, a < 8 → ∀ b, b < 8 → a ≠ b → (T_Do a).2.1 ≠ (T_Do b).2.1 := by decide +kernel
theorem tyo_Do : ∀ k, k < 8 → parseFieldDescriptor (T_Do k).2.2.1 = some (ty_Do k) := by decide +kernel
theorem iw_Do : ∀ w ∈ u_ws "PersonSeeds$Doors" T_Do 8, w ∈ lw_tbl ∧ goodWord w = true := by decide +kernel
def T_Tr : u_T := fun k => match k with
  | 0 => ("PersonSeeds$Trails", "moves", "[I", true)
  | 1 => ("PersonSeeds$Trails", "minutes", "[I", true)
  | _ => ("PersonSeeds$Trails", "places", "[I", true)
def ty_Tr : Nat → FieldType := fun k => match k with
  | 0 => .array .int
  | 1 => .array .int
  | _ => .array .int
theorem n_Tr : ∀ a, a < 3 → ∀ b, b < 3 → a ≠ b → (T_Tr a).2.1 ≠ (T_Tr b).2.1 := by decide +kernel
theorem tyo_Tr : ∀ k, k < 3 → parseFieldDescriptor (T_Tr k).2.2.1 = some (ty_Tr k) := by decide +kernel
theorem iw_Tr : ∀ w ∈ u_ws "PersonSeeds$Trails" T_Tr 3, w ∈ lw_tbl ∧ goodWord w = true := by decide +kernel
def T_Pe : u_T := fun k => match k with
  | 0 => ("PersonSeeds$Persons", "seed", "J", true)
  | 1 => ("PersonSeeds$Persons", "count", "I", false)
  | 2 => ("PersonSeeds$Persons", "comes", "[I", true)
  | 3 => ("PersonSeeds$Persons", "desk", "[I", true)
  | 4 => ("PersonSeeds$Persons", "eatsFrom", "[I", true)
  | 5 => ("PersonSeeds$Persons", "eatsUntil", "[I", true)
  | 6 => ("PersonSeeds$Persons", "eatsIn", "[I", true)
  | 7 => ("PersonSeeds$Persons", "leaves", "[I", true)
  | _ => ("PersonSeeds$Persons", "waits", "[I", true)
def ty_Pe : Nat → FieldType := fun k => match k with
  | 0 => .long
  | 1 => .int
  | 2 => .array .int
  | 3 => .array .int
  | 4 => .array .int
  | 5 => .array .int
  | 6 => .array .int
  | 7 => .array .int
  | _ => .array .int
theorem n_Pe : ∀ a, a < 9 → ∀ b, b < 9 → a ≠ b → (T_Pe a).2.1 ≠ (T_Pe b).2.1 := by decide +kernel
theorem tyo_Pe : ∀ k, k < 9 → parseFieldDescriptor (T_Pe k).2.2.1 = some (ty_Pe k) := by decide +kernel
theorem iw_Pe : ∀ w ∈ u_ws "PersonSeeds$Persons" T_Pe 9, w ∈ lw_tbl ∧ goodWord w = true := by decide +kernel
def T_Mo : u_T := fun k => match k with
  | 0 => ("PersonSeedsModel", "seed", "J", true)
  | 1 => ("PersonSeedsModel", "fault", "I", false)
  | 2 => ("PersonSeedsModel", "minute", "I", false)
  | 3 => ("PersonSeedsModel", "rooms", "I", false)
  | 4 => ("PersonSeedsModel", "cells", "[I", true)
  | 5 => ("PersonSeedsModel", "there", "[I", true)
  | 6 => ("PersonSeedsModel", "most", "[I", true)
  | 7 => ("PersonSeedsModel", "full", "[I", true)
  | 8 => ("PersonSeedsModel", "far", "[I", true)
  | 9 => ("PersonSeedsModel", "doors", "I", false)
  | 10 => ("PersonSeedsModel", "from", "[I", true)
  | 11 => ("PersonSeedsModel", "to", "[I", true)
  | 12 => ("PersonSeedsModel", "width", "[I", true)
  | 13 => ("PersonSeedsModel", "gone", "[I", true)
  | 14 => ("PersonSeedsModel", "onward", "[I", true)
  | 15 => ("PersonSeedsModel", "backward", "[I", true)
  | 16 => ("PersonSeedsModel", "persons", "I", false)
  | 17 => ("PersonSeedsModel", "comes", "[I", true)
  | 18 => ("PersonSeedsModel", "place", "[I", true)
  | 19 => ("PersonSeedsModel", "waits", "[I", true)
  | 20 => ("PersonSeedsModel", "past", "[B", true)
  | 21 => ("PersonSeedsModel", "cameIn", "I", false)
  | _ => ("PersonSeedsModel", "wentOut", "I", false)
def ty_Mo : Nat → FieldType := fun k => match k with
  | 0 => .long
  | 1 => .int
  | 2 => .int
  | 3 => .int
  | 4 => .array .int
  | 5 => .array .int
  | 6 => .array .int
  | 7 => .array .int
  | 8 => .array .int
  | 9 => .int
  | 10 => .array .int
  | 11 => .array .int
  | 12 => .array .int
  | 13 => .array .int
  | 14 => .array .int
  | 15 => .array .int
  | 16 => .int
  | 17 => .array .int
  | 18 => .array .int
  | 19 => .array .int
  | 20 => .array .byte
  | 21 => .int
  | _ => .int
theorem n_Mo : ∀ a, a < 23 → ∀ b, b < 23 → a ≠ b → (T_Mo a).2.1 ≠ (T_Mo b).2.1 := by decide +kernel
theorem tyo_Mo : ∀ k, k < 23 → parseFieldDescriptor (T_Mo k).2.2.1 = some (ty_Mo k) := by decide +kernel
theorem iw_Mo : ∀ w ∈ u_ws "PersonSeedsModel" T_Mo 23, w ∈ lw_tbl ∧ goodWord w = true := by decide +kernel
abbrev zCl : List vw_C := [("PersonSeeds", T_PS, 7), ("PersonSeeds$Rooms", T_Ro, 5), ("PersonSeeds$Doors", T_Do, 8), ("PersonSeeds$Trails", T_Tr, 3), ("PersonSeeds$Persons", T_Pe, 9), ("PersonSeedsModel", T_Mo, 23)]
end
section
/-! Own layer: a memory of whole numbers over a fixed row of cells. Cell k of the row L is an object (its class's place, its fields) or an array (0: of ints, 1: of bytes; its length); what it holds is M k. -/
def zI (z : Int) : Int32 := Int32.ofInt z
theorem zI_add (a b : Int) : zI a + zI b = zI (a + b) := (Int32.ofInt_add a b).symm
theorem zI_sub (a b : Int) : zI a - zI b = zI (a - b) := (Int32.ofInt_sub a b).symm
theorem zI_mul (a b : Int) : zI a * zI b = zI (a * b) := (Int32.ofInt_mul a b).symm
theorem zI_toInt {a : Int} (h : -2147483648 ≤ a ∧ a ≤ 2147483647) : (zI a).toInt = a := Int32.toInt_ofInt_of_le (by omega) (by omega)
theorem zI_of (x : Int32) : x = zI x.toInt := (Int32.ofInt_toInt x).symm
theorem zI_rg (x : Int32) : -2147483648 ≤ x.toInt ∧ x.toInt ≤ 2147483647 := by
  have h1 := Int32.le_toInt x
  have h2 := Int32.toInt_lt x
  omega
theorem zI_le {a b : Int} (h : (-2147483648 ≤ a ∧ a ≤ 2147483647) ∧ -2147483648 ≤ b ∧ b ≤ 2147483647) : zI a ≤ zI b ↔ a ≤ b := by
  rw [Int32.le_iff_toInt_le, zI_toInt h.1, zI_toInt h.2]
theorem zI_lt {a b : Int} (h : (-2147483648 ≤ a ∧ a ≤ 2147483647) ∧ -2147483648 ≤ b ∧ b ≤ 2147483647) : zI a < zI b ↔ a < b := by
  rw [Int32.lt_iff_toInt_lt, zI_toInt h.1, zI_toInt h.2]
theorem zI_eq {a b : Int} (h : (-2147483648 ≤ a ∧ a ≤ 2147483647) ∧ -2147483648 ≤ b ∧ b ≤ 2147483647) : zI a = zI b ↔ a = b := by
  rw [← Int32.toInt_inj, zI_toInt h.1, zI_toInt h.2]
theorem zI_0 : zI 0 = 0 := rfl
theorem zI_in {a : Int} {n : Nat} (h : 0 ≤ a ∧ a < n) (hn : n < 2147483648) : vp_in (zI a) n := by
  rw [vp_in_iff, zI_toInt (by omega)]
  exact h
theorem zI_cl {a : Int} {n : Nat} (h : 0 ≤ a ∧ a < n) (hn : n < 2147483648) : (zI a).toNatClampNeg = a.toNat := by
  show (zI a).toInt.toNat = a.toNat
  rw [zI_toInt (by omega)]
theorem zI_long {a : Int} (h : 1 ≤ a ∧ a ≤ 2147483647) : ¬ (zI a).toInt64 = 0 := by
  intro q
  have h1 : (zI a).toInt64.toInt = (0 : Int64).toInt := by rw [q]
  rw [Int32.toInt_toInt64, zI_toInt (by omega)] at h1
  have h2 : (0 : Int64).toInt = 0 := rfl
  omega
def bm (z : Int) : Int := (zI z).toInt
theorem bm_zI (z : Int) : zI (bm z) = zI z := (zI_of (zI z)).symm
theorem bm_rg (z : Int) : -2147483648 ≤ bm z ∧ bm z ≤ 2147483647 := zI_rg (zI z)
theorem bm_of {z : Int} (h : -2147483648 ≤ z ∧ z ≤ 2147483647) : bm z = z := zI_toInt h
abbrev zM : Type := Nat → Int → Int
def zU (M : zM) (k : Nat) (i v : Int) : zM := fun k' i' => if k' = k ∧ i' = i then v else M k' i'
theorem zU_k {M : zM} {k j : Nat} {i v : Int} (h : j ≠ k) : zU M k i v j = M j := by
  funext q
  simp [zU, h]
theorem zU_s {M : zM} {k : Nat} {i v : Int} : zU M k i v k i = v := by simp [zU]
theorem zU_n {M : zM} {k : Nat} {i j v : Int} (h : j ≠ i) : zU M k i v k j = M k j := by simp [zU, h]
/-- a field: a reference to a cell of the row, an int, a long that stays -/
abbrev zF : Type := Nat ⊕ (Unit ⊕ Int64)
abbrev zC : Type := (Nat × List zF) ⊕ (Nat × Nat)
def zFv (ad : Nat → Nat) (M : zM) (k j : Nat) (f : zF) : Value := match f with
  | .inl c => .ref (ad c)
  | .inr (.inl _) => .int (zI (M k j))
  | .inr (.inr x) => .long x
def zFs (ad : Nat → Nat) (M : zM) (k : Nat) : Nat → List zF → List Value
  | _, [] => []
  | j, f :: t => zFv ad M k j f :: zFs ad M k (j + 1) t
def zE (ad : Nat → Nat) (cI : Nat → ClassId) (M : zM) (k : Nat) (d : zC) : va_E := match d with
  | .inl o => .inr (o.1, zFs ad M k 0 o.2)
  | .inr n => .inl (cI n.1, n.2, .inl (fun q => zI (M k (q : Int))))
def zW (ad : Nat → Nat) (cI : Nat → ClassId) (M : zM) : Nat → List zC → va_W
  | _, [] => []
  | k, d :: t => (ad k, zE ad cI M k d) :: zW ad cI M (k + 1) t
theorem zFs_at (ad : Nat → Nat) (M : zM) (k : Nat) : ∀ (fs : List zF) (j0 j : Nat), (zFs ad M k j0 fs)[j]? = (fs[j]?).map (zFv ad M k (j0 + j))
  | [], j0, j => by simp [zFs]
  | f :: t, j0, 0 => by simp [zFs]
  | f :: t, j0, j + 1 => by
    simp only [zFs, List.getElem?_cons_succ]
    rw [zFs_at ad M k t (j0 + 1) j, show j0 + 1 + j = j0 + (j + 1) by omega]
theorem zFs_len (ad : Nat → Nat) (M : zM) (k : Nat) : ∀ (fs : List zF) (j0 : Nat), (zFs ad M k j0 fs).length = fs.length
  | [], _ => rfl
  | f :: t, j0 => by simp [zFs, zFs_len ad M k t (j0 + 1)]
theorem zW_at (ad : Nat → Nat) (cI : Nat → ClassId) (M : zM) : ∀ (L : List zC) (k0 k : Nat), (zW ad cI M k0 L)[k]? = (L[k]?).map (fun d => (ad (k0 + k), zE ad cI M (k0 + k) d))
  | [], k0, k => by simp [zW]
  | d :: t, k0, 0 => by simp [zW]
  | d :: t, k0, k + 1 => by
    simp only [zW, List.getElem?_cons_succ]
    rw [zW_at ad cI M t (k0 + 1) k, show k0 + 1 + k = k0 + (k + 1) by omega]
theorem zW_is {ad : Nat → Nat} {cI : Nat → ClassId} {M : zM} {L : List zC} {k : Nat} {d : zC} (h : L[k]? = some d) : (zW ad cI M 0 L)[k]? = some (ad k, zE ad cI M k d) := by
  rw [zW_at, h]; simp
theorem zW_put {ad : Nat → Nat} {cI : Nat → ClassId} {M M' : zM} {L : List zC} {k : Nat} {d : zC} {E : va_E} (h : L[k]? = some d) (he : zE ad cI M' k d = E) (ho : ∀ j, j ≠ k → M' j = M j) : (zW ad cI M 0 L).set k (ad k, E) = zW ad cI M' 0 L := by
  apply List.ext_getElem?
  intro j
  rw [List.getElem?_set]
  by_cases hj : k = j
  · subst hj
    have hl : k < (zW ad cI M 0 L).length := by
      rcases Nat.lt_or_ge k (zW ad cI M 0 L).length with q | q
      · exact q
      · have := List.getElem?_eq_none q
        rw [zW_is h] at this
        cases this
    rw [if_pos rfl, if_pos hl, zW_is h, he]
  · rw [if_neg hj, zW_at, zW_at]
    cases hd : L[j]? with
    | none => rfl
    | some d9 =>
      simp only [Option.map_some, Nat.zero_add]
      have e : M' j = M j := ho j (fun z => hj z.symm)
      congr 2
      cases d9 with
      | inl o =>
        simp only [zE]
        congr 2
        apply List.ext_getElem?
        intro i
        rw [zFs_at, zFs_at]
        congr 1
        funext f
        cases f with
        | inl c => rfl
        | inr f =>
          cases f with
          | inl u => simp only [zFv, e]
          | inr x => rfl
      | inr n => simp only [zE, e]
def zA (ad : Nat → Nat) (L : List zC) : Nat → Prop := fun q => ∃ k, k < L.length ∧ q = ad k
/-- the row L stands in the heap H and holds M -/
def zX (D : va_G) (L : List zC) (ad : Nat → Nat) (cI : Nat → ClassId) (M : zM) (H : Heap) : Prop :=
  va_P D zCl (zW ad cI M 0 L) H ∧ va_D (zA ad L) (zW ad cI M 0 L) ∧ ∀ k i, -2147483648 ≤ M k i ∧ M k i ≤ 2147483647
/-- the tables: the classes; the words that the start gave -/
def zK (D : va_G) (cI : Nat → ClassId) (U : State) : Prop := va_K D zCl [(cI 0, .int), (cI 1, .byte), (cI 2, .long)] U ∧ ∃ (a0 : Array Value) (s0 : State), s0.WarmedH U.vm ∧ ∀ w ∈ lw_tbl, w.before a0 s0 = true
def zP (D : va_G) (L : List zC) (ad : Nat → Nat) (cI : Nat → ClassId) (M : zM) (U : State) : Prop := zX D L ad cI M U.heap ∧ zK D cI U
theorem zK.warm {D : va_G} {cI : Nat → ClassId} {u U : State} (hW : u.WarmedH U.vm) (h : zK D cI u) : zK D cI U := by
  obtain ⟨h1, a0, s0, h2, h3⟩ := h
  exact ⟨va_K.moved hW.alike h1, a0, s0, State.WarmedH.trans h2 hW, h3⟩
theorem zK.w {D : va_G} {cI : Nat → ClassId} {U : State} (h : zK D cI U) {w : Cond} {args : Array Value} (hm : w ∈ lw_tbl) (hg : goodWord w = true) : w.before args U = true := by
  obtain ⟨-, a0, s0, h2, h3⟩ := h
  exact word_at h2 (good_of_word hg) (h3 _ hm)
theorem zK.nf {D : va_G} {cI : Nat → ClassId} {U : State} (h : zK D cI U) {a : String} {i : Nat} {b n d o : String} {args : Array Value} (hm : Cond.fieldLinkNest a i b n d o ∈ lw_tbl) : (Cond.fieldLinkNest a i b n d o).before args U = true := by
  obtain ⟨-, a0, s0, h2, h3⟩ := h
  exact va_Nw.use rfl (va_Nw.warmF h2 (va_Nw.of rfl (h3 _ hm)))
theorem zK.nm {D : va_G} {cI : Nat → ClassId} {U : State} (h : zK D cI U) {a : String} {i : Nat} {y : MethodName} {o : String} {args : Array Value} (hm : Cond.methodLinkNest a i y o ∈ lw_tbl) : (Cond.methodLinkNest a i y o).before args U = true := by
  obtain ⟨-, a0, s0, h2, h3⟩ := h
  exact va_Nw.use rfl (va_Nw.warmM h2 (va_Nw.of rfl (h3 _ hm)))
theorem zW_len (ad : Nat → Nat) (cI : Nat → ClassId) (M : zM) : ∀ (L : List zC) (k : Nat), (zW ad cI M k L).length = L.length
  | [], _ => rfl
  | d :: t, k => by simp [zW, zW_len ad cI M t (k + 1)]
theorem zX.kept {D : va_G} {L : List zC} {ad : Nat → Nat} {cI : Nat → ClassId} {M : zM} {H H1 : Heap} (h : zX D L ad cI M H) (hq : ∀ q : Nat, q < H.size → zA ad L q → H1[q]? = H[q]?) : zX D L ad cI M H1 := by
  refine ⟨fun k x hx => ?_, h.2⟩
  have h1 := h.1 k x hx
  exact h1.kept (hq x.1 h1.lt (h.2.1.2 k x hx))
theorem zX.rg {D : va_G} {L : List zC} {ad : Nat → Nat} {cI : Nat → ClassId} {M : zM} {H : Heap} (h : zX D L ad cI M H) (k : Nat) (i : Int) : -2147483648 ≤ M k i ∧ M k i ≤ 2147483647 := h.2.2 k i
theorem zU_rg {M : zM} (h : ∀ k i, -2147483648 ≤ M k i ∧ M k i ≤ 2147483647) {k : Nat} {i v : Int} (hv : -2147483648 ≤ v ∧ v ≤ 2147483647) : ∀ k' i', -2147483648 ≤ zU M k i v k' i' ∧ zU M k i v k' i' ≤ 2147483647 := by
  intro k' i'
  unfold zU
  split
  · exact hv
  · exact h k' i'
theorem zI_byte {v : Int} (h : -128 ≤ v ∧ v ≤ 127) : vp_nar .byte (zI v) = zI v := by
  rw [vp_nar_byte]
  apply Int32.toInt_inj.mp
  rw [Int8.toInt_toInt32, zI_toInt (by omega)]
  have e : (zI v).toInt8.toInt = (zI v).toInt.bmod (2 ^ 8) := Int32.toInt_toInt8 _
  rw [e, zI_toInt (by omega)]
  exact Int.bmod_eq_of_le (by omega) (by omega)
section ZROWS
variable {p : Program} {l : Launch} {e : Env} {R : Room} {s : State} {m : MethodId} {args : Array Value} {below : List Frame} {meth : Method} {c : Code} {H : Heap} {locs : List Loc} {cells slots : Nat} {Q : State → Prop}
variable {cc : ByteArray} {pc : Nat} {ls : Array Slot} {rest : List Value}
variable {D : va_G} {L : List zC} {ad : Nat → Nat} {cI : Nat → ClassId} {M : zM} {H0 : Heap}
theorem z_const (hx : p.tables.exec = Jvm.exec) (hb : c.code = cc) {n : Int} (hdg : decode cc pc = .ok (.iconst n, 1))
    (k : W p l e R s m args below meth c H locs cells slots Q (F0 m (pc + 1) ls (.int (zI n) :: rest))) : W p l e R s m args below meth c H locs cells slots Q (F0 m pc ls rest) := lv_iconst hx hb hdg rfl k
theorem z_bipush (hx : p.tables.exec = Jvm.exec) (hb : c.code = cc) {n : Int} (hdg : decode cc pc = .ok (.bipush n, 2)) (hv : (Int8.ofInt n).toInt32 = zI n)
    (k : W p l e R s m args below meth c H locs cells slots Q (F0 m (pc + 2) ls (.int (zI n) :: rest))) : W p l e R s m args below meth c H locs cells slots Q (F0 m pc ls rest) := lv_bipush hx hb hdg hv k
theorem z_sipush (hx : p.tables.exec = Jvm.exec) (hb : c.code = cc) {n : Int} (hdg : decode cc pc = .ok (.sipush n, 3)) (hv : (Int16.ofInt n).toInt32 = zI n)
    (k : W p l e R s m args below meth c H locs cells slots Q (F0 m (pc + 3) ls (.int (zI n) :: rest))) : W p l e R s m args below meth c H locs cells slots Q (F0 m pc ls rest) := lv_sipush hx hb hdg hv k
theorem z_raw {x : Int32} (k : W p l e R s m args below meth c H locs cells slots Q (F0 m pc ls (.int (zI x.toInt) :: rest))) : W p l e R s m args below meth c H locs cells slots Q (F0 m pc ls (.int x :: rest)) := by
  rw [← zI_of] at k
  exact k
theorem z_ldc (hx : p.tables.exec = Jvm.exec) (hb : c.code = cc) {own : String} {index : Nat} {n : Int} (hown : s.vm.findClass own = some m.cls) (hK : zK D cI s) (hconst : Jvm.Cond.constant own index (zI n) ∈ lw_tbl) (hdg : decode cc pc = .ok (.ldc index, 2))
    (k : W p l e R s m args below meth c H locs cells slots Q (F0 m (pc + 2) ls (.int (zI n) :: rest))) : W p l e R s m args below meth c H locs cells slots Q (F0 m pc ls rest) := lv_ldc hx hb hown (hK.w hconst rfl) hdg k
theorem z_ldc2 (hx : p.tables.exec = Jvm.exec) (hb : c.code = cc) {own : String} {index : Nat} {v : Int64} (hown : s.vm.findClass own = some m.cls) (hK : zK D cI s) (hconst : Jvm.Cond.constantLong own index v ∈ lw_tbl) (hdg : decode cc pc = .ok (.ldc2_w index, 3))
    (k : W p l e R s m args below meth c H locs cells slots Q (F0 m (pc + 3) ls (.long v :: rest))) : W p l e R s m args below meth c H locs cells slots Q (F0 m pc ls rest) := lv_ldc2 hx hb hown (hK.w hconst rfl) hdg k
theorem z_iadd (hx : p.tables.exec = Jvm.exec) (hb : c.code = cc) {a b : Int} (hdg : decode cc pc = .ok (.iadd, 1))
    (k : W p l e R s m args below meth c H locs cells slots Q (F0 m (pc + 1) ls (.int (zI (a + b)) :: rest))) : W p l e R s m args below meth c H locs cells slots Q (F0 m pc ls (.int (zI b) :: .int (zI a) :: rest)) := lv_iadd hx hb hdg (by rw [zI_add]; exact k)
theorem z_isub (hx : p.tables.exec = Jvm.exec) (hb : c.code = cc) {a b : Int} (hdg : decode cc pc = .ok (.isub, 1))
    (k : W p l e R s m args below meth c H locs cells slots Q (F0 m (pc + 1) ls (.int (zI (a - b)) :: rest))) : W p l e R s m args below meth c H locs cells slots Q (F0 m pc ls (.int (zI b) :: .int (zI a) :: rest)) := lv_isub hx hb hdg (by rw [zI_sub]; exact k)
theorem z_imul (hx : p.tables.exec = Jvm.exec) (hb : c.code = cc) {a b : Int} (hdg : decode cc pc = .ok (.imul, 1))
    (k : W p l e R s m args below meth c H locs cells slots Q (F0 m (pc + 1) ls (.int (zI (a * b)) :: rest))) : W p l e R s m args below meth c H locs cells slots Q (F0 m pc ls (.int (zI b) :: .int (zI a) :: rest)) := lv_imul hx hb hdg (by rw [zI_mul]; exact k)
theorem z_iinc (hx : p.tables.exec = Jvm.exec) (hb : c.code = cc) {i nL k : Nat} {n a : Int} {lv lv' : List (Nat × Value)} (hdg : decode cc pc = .ok (.iinc i n, 3)) (h : lv_has ls nL lv) (hk : lv[k]? = some (i, .int (zI a))) (hn : i < nL) (hl : (i, Value.int (zI (a + n))) :: lv.filter (fun q => !(q.1 == i) && !(q.1 + 1 == i && q.2.category == 2)) = lv')
    (kk : ∀ ls' : Array Slot, lv_has ls' nL lv' → W p l e R s m args below meth c H locs cells slots Q (F0 m (pc + 3) ls' rest)) : W p l e R s m args below meth c H locs cells slots Q (F0 m pc ls rest) :=
  lv_iinc (v := zI (a + n)) hx hb hdg h hk (zI_add a n) hn hl kk
theorem z_icmp_ge (hx : p.tables.exec = Jvm.exec) (hb : c.code = cc) {a b : Int} {off : Int} {tgt : Nat} (hdg : decode cc pc = .ok (.if_icmp .ge off, 3)) (ht : (pc : Int) + off = (tgt : Int)) (hr : (-2147483648 ≤ a ∧ a ≤ 2147483647) ∧ -2147483648 ≤ b ∧ b ≤ 2147483647)
    (kt : b ≤ a → W p l e R s m args below meth c H locs cells slots Q (F0 m tgt ls rest)) (kf : a < b → W p l e R s m args below meth c H locs cells slots Q (F0 m (pc + 3) ls rest)) : W p l e R s m args below meth c H locs cells slots Q (F0 m pc ls (.int (zI b) :: .int (zI a) :: rest)) :=
  lv_icmp_ge hx hb hdg ht (fun h => kt ((zI_le ⟨hr.2, hr.1⟩).mp h)) (fun h => kf (Int.not_le.mp fun q => h ((zI_le ⟨hr.2, hr.1⟩).mpr q)))
theorem z_icmp_lt (hx : p.tables.exec = Jvm.exec) (hb : c.code = cc) {a b : Int} {off : Int} {tgt : Nat} (hdg : decode cc pc = .ok (.if_icmp .lt off, 3)) (ht : (pc : Int) + off = (tgt : Int)) (hr : (-2147483648 ≤ a ∧ a ≤ 2147483647) ∧ -2147483648 ≤ b ∧ b ≤ 2147483647)
    (kt : a < b → W p l e R s m args below meth c H locs cells slots Q (F0 m tgt ls rest)) (kf : b ≤ a → W p l e R s m args below meth c H locs cells slots Q (F0 m (pc + 3) ls rest)) : W p l e R s m args below meth c H locs cells slots Q (F0 m pc ls (.int (zI b) :: .int (zI a) :: rest)) :=
  lv_icmp_lt hx hb hdg ht (fun h => kt ((zI_lt hr).mp h)) (fun h => kf (Int.not_lt.mp fun q => h ((zI_lt hr).mpr q)))
theorem z_icmp_gt (hx : p.tables.exec = Jvm.exec) (hb : c.code = cc) {a b : Int} {off : Int} {tgt : Nat} (hdg : decode cc pc = .ok (.if_icmp .gt off, 3)) (ht : (pc : Int) + off = (tgt : Int)) (hr : (-2147483648 ≤ a ∧ a ≤ 2147483647) ∧ -2147483648 ≤ b ∧ b ≤ 2147483647)
    (kt : b < a → W p l e R s m args below meth c H locs cells slots Q (F0 m tgt ls rest)) (kf : a ≤ b → W p l e R s m args below meth c H locs cells slots Q (F0 m (pc + 3) ls rest)) : W p l e R s m args below meth c H locs cells slots Q (F0 m pc ls (.int (zI b) :: .int (zI a) :: rest)) :=
  lv_icmp_gt hx hb hdg ht (fun h => kt ((zI_lt ⟨hr.2, hr.1⟩).mp h)) (fun h => kf (Int.not_lt.mp fun q => h ((zI_lt ⟨hr.2, hr.1⟩).mpr q)))
theorem z_icmp_le (hx : p.tables.exec = Jvm.exec) (hb : c.code = cc) {a b : Int} {off : Int} {tgt : Nat} (hdg : decode cc pc = .ok (.if_icmp .le off, 3)) (ht : (pc : Int) + off = (tgt : Int)) (hr : (-2147483648 ≤ a ∧ a ≤ 2147483647) ∧ -2147483648 ≤ b ∧ b ≤ 2147483647)
    (kt : a ≤ b → W p l e R s m args below meth c H locs cells slots Q (F0 m tgt ls rest)) (kf : b < a → W p l e R s m args below meth c H locs cells slots Q (F0 m (pc + 3) ls rest)) : W p l e R s m args below meth c H locs cells slots Q (F0 m pc ls (.int (zI b) :: .int (zI a) :: rest)) :=
  lv_icmp_le hx hb hdg ht (fun h => kt ((zI_le hr).mp h)) (fun h => kf (Int.not_le.mp fun q => h ((zI_le hr).mpr q)))
theorem z_icmp_eq (hx : p.tables.exec = Jvm.exec) (hb : c.code = cc) {a b : Int} {off : Int} {tgt : Nat} (hdg : decode cc pc = .ok (.if_icmp .eq off, 3)) (ht : (pc : Int) + off = (tgt : Int)) (hr : (-2147483648 ≤ a ∧ a ≤ 2147483647) ∧ -2147483648 ≤ b ∧ b ≤ 2147483647)
    (kt : a = b → W p l e R s m args below meth c H locs cells slots Q (F0 m tgt ls rest)) (kf : ¬ a = b → W p l e R s m args below meth c H locs cells slots Q (F0 m (pc + 3) ls rest)) : W p l e R s m args below meth c H locs cells slots Q (F0 m pc ls (.int (zI b) :: .int (zI a) :: rest)) :=
  lv_icmp_eq hx hb hdg ht (fun h => kt ((zI_eq hr).mp h)) (fun h => kf (fun q => h ((zI_eq hr).mpr q)))
theorem z_icmp_ne (hx : p.tables.exec = Jvm.exec) (hb : c.code = cc) {a b : Int} {off : Int} {tgt : Nat} (hdg : decode cc pc = .ok (.if_icmp .ne off, 3)) (ht : (pc : Int) + off = (tgt : Int)) (hr : (-2147483648 ≤ a ∧ a ≤ 2147483647) ∧ -2147483648 ≤ b ∧ b ≤ 2147483647)
    (kt : ¬ a = b → W p l e R s m args below meth c H locs cells slots Q (F0 m tgt ls rest)) (kf : a = b → W p l e R s m args below meth c H locs cells slots Q (F0 m (pc + 3) ls rest)) : W p l e R s m args below meth c H locs cells slots Q (F0 m pc ls (.int (zI b) :: .int (zI a) :: rest)) :=
  lv_icmp_ne hx hb hdg ht (fun h => kt (fun q => h ((zI_eq hr).mpr q))) (fun h => kf ((zI_eq hr).mp h))
theorem z_if_eq (hx : p.tables.exec = Jvm.exec) (hb : c.code = cc) {a : Int} {off : Int} {tgt : Nat} (hdg : decode cc pc = .ok (.ifCond .eq off, 3)) (ht : (pc : Int) + off = (tgt : Int)) (hr : -2147483648 ≤ a ∧ a ≤ 2147483647)
    (kt : a = 0 → W p l e R s m args below meth c H locs cells slots Q (F0 m tgt ls rest)) (kf : ¬ a = 0 → W p l e R s m args below meth c H locs cells slots Q (F0 m (pc + 3) ls rest)) : W p l e R s m args below meth c H locs cells slots Q (F0 m pc ls (.int (zI a) :: rest)) :=
  lv_if_eq hx hb hdg ht (fun h => kt ((zI_eq ⟨hr, by decide⟩).mp h)) (fun h => kf (fun q => h ((zI_eq ⟨hr, by decide⟩).mpr q)))
theorem z_if_ne (hx : p.tables.exec = Jvm.exec) (hb : c.code = cc) {a : Int} {off : Int} {tgt : Nat} (hdg : decode cc pc = .ok (.ifCond .ne off, 3)) (ht : (pc : Int) + off = (tgt : Int)) (hr : -2147483648 ≤ a ∧ a ≤ 2147483647)
    (kt : ¬ a = 0 → W p l e R s m args below meth c H locs cells slots Q (F0 m tgt ls rest)) (kf : a = 0 → W p l e R s m args below meth c H locs cells slots Q (F0 m (pc + 3) ls rest)) : W p l e R s m args below meth c H locs cells slots Q (F0 m pc ls (.int (zI a) :: rest)) :=
  lv_if_ne hx hb hdg ht (fun h => kt (fun q => h ((zI_eq (b := 0) ⟨hr, by decide⟩).mpr q))) (fun h => kf ((zI_eq (b := 0) ⟨hr, by decide⟩).mp h))
theorem z_if_le (hx : p.tables.exec = Jvm.exec) (hb : c.code = cc) {a : Int} {off : Int} {tgt : Nat} (hdg : decode cc pc = .ok (.ifCond .le off, 3)) (ht : (pc : Int) + off = (tgt : Int)) (hr : -2147483648 ≤ a ∧ a ≤ 2147483647)
    (kt : a ≤ 0 → W p l e R s m args below meth c H locs cells slots Q (F0 m tgt ls rest)) (kf : 0 < a → W p l e R s m args below meth c H locs cells slots Q (F0 m (pc + 3) ls rest)) : W p l e R s m args below meth c H locs cells slots Q (F0 m pc ls (.int (zI a) :: rest)) :=
  lv_if_le hx hb hdg ht (fun h => kt ((zI_le (b := 0) ⟨hr, by decide⟩).mp h)) (fun h => kf (Int.not_le.mp fun q => h ((zI_le (b := 0) ⟨hr, by decide⟩).mpr q)))
theorem z_if_lt (hx : p.tables.exec = Jvm.exec) (hb : c.code = cc) {a : Int} {off : Int} {tgt : Nat} (hdg : decode cc pc = .ok (.ifCond .lt off, 3)) (ht : (pc : Int) + off = (tgt : Int)) (hr : -2147483648 ≤ a ∧ a ≤ 2147483647)
    (kt : a < 0 → W p l e R s m args below meth c H locs cells slots Q (F0 m tgt ls rest)) (kf : 0 ≤ a → W p l e R s m args below meth c H locs cells slots Q (F0 m (pc + 3) ls rest)) : W p l e R s m args below meth c H locs cells slots Q (F0 m pc ls (.int (zI a) :: rest)) :=
  lv_if_lt hx hb hdg ht (fun h => kt ((zI_lt (b := 0) ⟨hr, by decide⟩).mp h)) (fun h => kf (Int.not_lt.mp fun q => h ((zI_lt (b := 0) ⟨hr, by decide⟩).mpr q)))
theorem z_if_ge (hx : p.tables.exec = Jvm.exec) (hb : c.code = cc) {a : Int} {off : Int} {tgt : Nat} (hdg : decode cc pc = .ok (.ifCond .ge off, 3)) (ht : (pc : Int) + off = (tgt : Int)) (hr : -2147483648 ≤ a ∧ a ≤ 2147483647)
    (kt : 0 ≤ a → W p l e R s m args below meth c H locs cells slots Q (F0 m tgt ls rest)) (kf : a < 0 → W p l e R s m args below meth c H locs cells slots Q (F0 m (pc + 3) ls rest)) : W p l e R s m args below meth c H locs cells slots Q (F0 m pc ls (.int (zI a) :: rest)) :=
  lv_if_ge hx hb hdg ht (fun h => kt ((zI_le (a := 0) ⟨by decide, hr⟩).mp h)) (fun h => kf (Int.not_le.mp fun q => h ((zI_le (a := 0) ⟨by decide, hr⟩).mpr q)))
theorem z_if_gt (hx : p.tables.exec = Jvm.exec) (hb : c.code = cc) {a : Int} {off : Int} {tgt : Nat} (hdg : decode cc pc = .ok (.ifCond .gt off, 3)) (ht : (pc : Int) + off = (tgt : Int)) (hr : -2147483648 ≤ a ∧ a ≤ 2147483647)
    (kt : 0 < a → W p l e R s m args below meth c H locs cells slots Q (F0 m tgt ls rest)) (kf : a ≤ 0 → W p l e R s m args below meth c H locs cells slots Q (F0 m (pc + 3) ls rest)) : W p l e R s m args below meth c H locs cells slots Q (F0 m pc ls (.int (zI a) :: rest)) :=
  lv_if_gt hx hb hdg ht (fun h => kt ((zI_lt (a := 0) ⟨by decide, hr⟩).mp h)) (fun h => kf (Int.not_lt.mp fun q => h ((zI_lt (a := 0) ⟨by decide, hr⟩).mpr q)))
theorem z_iald (hx : p.tables.exec = Jvm.exec) (hb : c.code = cc) (hK : zK D cI s) (hX : zX D L ad cI M H) (k : Nat) {n : Nat} (hk : L[k]? = some (.inr (0, n))) {i v : Int} (hi : 0 ≤ i ∧ i < n) (hn : n < 2147483648) (hv : M k i = v) (hdg : decode cc pc = .ok (.iaload, 1))
    (kk : -2147483648 ≤ v ∧ v ≤ 2147483647 → W p l e R s m args below meth c H locs cells slots Q (F0 m (pc + 1) ls (.int (zI v) :: rest))) : W p l e R s m args below meth c H locs cells slots Q (F0 m pc ls (.int (zI i) :: .ref (ad k) :: rest)) := by
  subst hv
  refine va_iald hx hb hK.1 hX.1 k 0 (zW_is hk) rfl (zI_in hi hn) hdg ?_
  rw [zI_cl hi hn, show ((i.toNat : Nat) : Int) = i from Int.toNat_of_nonneg hi.1]
  exact kk (hX.rg k i)
theorem z_bald (hx : p.tables.exec = Jvm.exec) (hb : c.code = cc) (hK : zK D cI s) (hX : zX D L ad cI M H) (k : Nat) {n : Nat} (hk : L[k]? = some (.inr (1, n))) {i v : Int} (hi : 0 ≤ i ∧ i < n) (hn : n < 2147483648) (hv : M k i = v) (hdg : decode cc pc = .ok (.baload, 1))
    (kk : -2147483648 ≤ v ∧ v ≤ 2147483647 → W p l e R s m args below meth c H locs cells slots Q (F0 m (pc + 1) ls (.int (zI v) :: rest))) : W p l e R s m args below meth c H locs cells slots Q (F0 m pc ls (.int (zI i) :: .ref (ad k) :: rest)) := by
  subst hv
  refine va_bald hx hb hK.1 hX.1 k 1 (zW_is hk) rfl (zI_in hi hn) hdg ?_
  rw [zI_cl hi hn, show ((i.toNat : Nat) : Int) = i from Int.toNat_of_nonneg hi.1]
  exact kk (hX.rg k i)
theorem z_iast (hx : p.tables.exec = Jvm.exec) (hb : c.code = cc) (hK : zK D cI s) (hX : zX D L ad cI M H) (hS : va_S (zA ad L) H0 H locs) (k : Nat) {n : Nat} (hk : L[k]? = some (.inr (0, n))) {i v : Int} (hi : 0 ≤ i ∧ i < n) (hn : n < 2147483648) (hv : -2147483648 ≤ v ∧ v ≤ 2147483647) (hdg : decode cc pc = .ok (.iastore, 1))
    (kk : ∀ (H1 : Heap) (locs1 : List Loc), zX D L ad cI (zU M k i v) H1 → va_S (zA ad L) H0 H1 locs1 → W p l e R s m args below meth c H1 locs1 cells slots Q (F0 m (pc + 1) ls rest)) : W p l e R s m args below meth c H locs cells slots Q (F0 m pc ls (.int (zI v) :: .int (zI i) :: .ref (ad k) :: rest)) := by
  refine va_iast hx hb hK.1 hX.1 hX.2.1 hS k 0 (zW_is hk) rfl (zI_in hi hn) hdg (fun H1 locs1 hP hD hS1 => ?_)
  have e : (zW ad cI M 0 L).set k (ad k, .inl (cI 0, n, .inl (upd (fun q => zI (M k (q : Int))) (zI i).toNatClampNeg (zI v)))) = zW ad cI (zU M k i v) 0 L := by
    refine zW_put hk ?_ (fun j hj => zU_k hj)
    simp only [zE]
    congr 3
    funext q
    rw [zI_cl hi hn]
    unfold upd
    by_cases hq : q = i.toNat
    · rw [if_pos hq, show (q : Int) = i by omega, zU_s]
    · rw [if_neg hq, zU_n (by omega)]
  rw [e] at hP hD
  exact kk H1 locs1 ⟨hP, hD, zU_rg hX.2.2 hv⟩ hS1
theorem z_bast (hx : p.tables.exec = Jvm.exec) (hb : c.code = cc) (hK : zK D cI s) (hX : zX D L ad cI M H) (hS : va_S (zA ad L) H0 H locs) (k : Nat) {n : Nat} (hk : L[k]? = some (.inr (1, n))) {i v : Int} (hi : 0 ≤ i ∧ i < n) (hn : n < 2147483648) (hv : -128 ≤ v ∧ v ≤ 127) (hdg : decode cc pc = .ok (.bastore, 1))
    (kk : ∀ (H1 : Heap) (locs1 : List Loc), zX D L ad cI (zU M k i v) H1 → va_S (zA ad L) H0 H1 locs1 → W p l e R s m args below meth c H1 locs1 cells slots Q (F0 m (pc + 1) ls rest)) : W p l e R s m args below meth c H locs cells slots Q (F0 m pc ls (.int (zI v) :: .int (zI i) :: .ref (ad k) :: rest)) := by
  refine va_bast hx hb hK.1 hX.1 hX.2.1 hS k 1 (zW_is hk) rfl (zI_in hi hn) hdg (fun H1 locs1 hP hD hS1 => ?_)
  rw [zI_byte hv] at hP hD
  have e : (zW ad cI M 0 L).set k (ad k, .inl (cI 1, n, .inl (upd (fun q => zI (M k (q : Int))) (zI i).toNatClampNeg (zI v)))) = zW ad cI (zU M k i v) 0 L := by
    refine zW_put hk ?_ (fun j hj => zU_k hj)
    simp only [zE]
    congr 3
    funext q
    rw [zI_cl hi hn]
    unfold upd
    by_cases hq : q = i.toNat
    · rw [if_pos hq, show (q : Int) = i by omega, zU_s]
    · rw [if_neg hq, zU_n (by omega)]
  rw [e] at hP hD
  exact kk H1 locs1 ⟨hP, hD, zU_rg hX.2.2 (by omega)⟩ hS1
theorem z_iastw (hx : p.tables.exec = Jvm.exec) (hb : c.code = cc) (hK : zK D cI s) (hX : zX D L ad cI M H) (hS : va_S (zA ad L) H0 H locs) (k : Nat) {n : Nat} (hk : L[k]? = some (.inr (0, n))) {i v : Int} (hi : 0 ≤ i ∧ i < n) (hn : n < 2147483648) (hdg : decode cc pc = .ok (.iastore, 1))
    (kk : ∀ (H1 : Heap) (locs1 : List Loc), zX D L ad cI (zU M k i (bm v)) H1 → va_S (zA ad L) H0 H1 locs1 → W p l e R s m args below meth c H1 locs1 cells slots Q (F0 m (pc + 1) ls rest)) : W p l e R s m args below meth c H locs cells slots Q (F0 m pc ls (.int (zI v) :: .int (zI i) :: .ref (ad k) :: rest)) := by
  have h := z_iast (p := p) (l := l) (e := e) (R := R) (m := m) (below := below) (meth := meth) (cells := cells) (slots := slots) (Q := Q) (ls := ls) (rest := rest) (v := bm v) hx hb hK hX hS k hk hi hn (bm_rg v) hdg kk
  rw [bm_zI] at h
  exact h
theorem z_alen (hx : p.tables.exec = Jvm.exec) (hb : c.code = cc) (hK : zK D cI s) (hX : zX D L ad cI M H) (k : Nat) {n : Nat} (hk : L[k]? = some (.inr (0, n))) (hdg : decode cc pc = .ok (.arraylength, 1))
    (kk : W p l e R s m args below meth c H locs cells slots Q (F0 m (pc + 1) ls (.int (zI (n : Int)) :: rest))) : W p l e R s m args below meth c H locs cells slots Q (F0 m pc ls (.ref (ad k) :: rest)) :=
  va_alen hx hb hK.1 hX.1 k 0 (zW_is hk) rfl (v := zI (n : Int)) (by rfl) hdg kk
/-- a field that is read: in the class itself; 'N': in another class of the nest -/
theorem z_getr (hx : p.tables.exec = Jvm.exec) (hb : c.code = cc) {own ref C : String} {T : u_T} {N ci index : Nat} (hin : ∀ w ∈ u_ws C T N, w ∈ lw_tbl ∧ goodWord w = true) (hown : s.vm.findClass own = some m.cls) (hK : zK D cI s) (hX : zX D L ad cI M H) (k : Nat) {fs : List zF} (hk : L[k]? = some (.inl (ci, fs))) (hc : zCl[ci]? = some (C, T, N)) (j : Nat) (hj : j < N) (hlink : Cond.fieldLink own index ref (T j).2.1 (T j).2.2.1 ∈ lw_tbl) (hsame : ∀ x, s.fieldFound? (T j).1 (T j).2.1 (T j).2.2.1 = some x → s.fieldFound? ref (T j).2.1 (T j).2.2.1 = some x) (q : Nat) (hf : fs[j]? = some (.inl q)) (hdg : decode cc pc = .ok (.getfield index, 3))
    (kk : W p l e R s m args below meth c H locs cells slots Q (F0 m (pc + 3) ls (.ref (ad q) :: rest))) : W p l e R s m args below meth c H locs cells slots Q (F0 m pc ls (.ref (ad k) :: rest)) :=
  va_get hx hb (fun w hw => hK.w (hin w hw).1 (hin w hw).2) (fun w hw => hw) hown hK.1 hX.1 k (zW_is hk) hc j hj (hK.w hlink rfl) hsame (v := .ref (ad q)) (by rw [zFs_at, hf]; rfl) hdg kk
theorem z_getrN (hx : p.tables.exec = Jvm.exec) (hb : c.code = cc) {own ref C host : String} {T : u_T} {N ci index : Nat} (hin : ∀ w ∈ u_ws C T N, w ∈ lw_tbl ∧ goodWord w = true) (hown : s.vm.findClass own = some m.cls) (hK : zK D cI s) (hX : zX D L ad cI M H) (k : Nat) {fs : List zF} (hk : L[k]? = some (.inl (ci, fs))) (hc : zCl[ci]? = some (C, T, N)) (j : Nat) (hj : j < N) (hlink : Cond.fieldLinkNest own index ref (T j).2.1 (T j).2.2.1 host ∈ lw_tbl) (hsame : ∀ x, s.fieldFound? (T j).1 (T j).2.1 (T j).2.2.1 = some x → s.fieldFound? ref (T j).2.1 (T j).2.2.1 = some x) (q : Nat) (hf : fs[j]? = some (.inl q)) (hdg : decode cc pc = .ok (.getfield index, 3))
    (kk : W p l e R s m args below meth c H locs cells slots Q (F0 m (pc + 3) ls (.ref (ad q) :: rest))) : W p l e R s m args below meth c H locs cells slots Q (F0 m pc ls (.ref (ad k) :: rest)) :=
  va_getN hx hb (fun w hw => hK.w (hin w hw).1 (hin w hw).2) (fun w hw => hw) hown hK.1 hX.1 k (zW_is hk) hc j hj (hK.nf hlink) hsame (v := .ref (ad q)) (by rw [zFs_at, hf]; rfl) hdg kk
theorem z_geti (hx : p.tables.exec = Jvm.exec) (hb : c.code = cc) {own ref C : String} {T : u_T} {N ci index : Nat} (hin : ∀ w ∈ u_ws C T N, w ∈ lw_tbl ∧ goodWord w = true) (hown : s.vm.findClass own = some m.cls) (hK : zK D cI s) (hX : zX D L ad cI M H) (k : Nat) {fs : List zF} (hk : L[k]? = some (.inl (ci, fs))) (hc : zCl[ci]? = some (C, T, N)) (j : Nat) (hj : j < N) (hlink : Cond.fieldLink own index ref (T j).2.1 (T j).2.2.1 ∈ lw_tbl) (hsame : ∀ x, s.fieldFound? (T j).1 (T j).2.1 (T j).2.2.1 = some x → s.fieldFound? ref (T j).2.1 (T j).2.2.1 = some x) (hf : fs[j]? = some (.inr (.inl ()))) {i v : Int} (hi : i = (j : Int)) (hv : M k i = v) (hdg : decode cc pc = .ok (.getfield index, 3))
    (kk : -2147483648 ≤ v ∧ v ≤ 2147483647 → W p l e R s m args below meth c H locs cells slots Q (F0 m (pc + 3) ls (.int (zI v) :: rest))) : W p l e R s m args below meth c H locs cells slots Q (F0 m pc ls (.ref (ad k) :: rest)) := by
  subst hi; subst hv
  exact va_get hx hb (fun w hw => hK.w (hin w hw).1 (hin w hw).2) (fun w hw => hw) hown hK.1 hX.1 k (zW_is hk) hc j hj (hK.w hlink rfl) hsame (v := .int (zI (M k j))) (by rw [zFs_at, hf]; simp [zFv]) hdg (kk (hX.rg k j))
theorem z_getiN (hx : p.tables.exec = Jvm.exec) (hb : c.code = cc) {own ref C host : String} {T : u_T} {N ci index : Nat} (hin : ∀ w ∈ u_ws C T N, w ∈ lw_tbl ∧ goodWord w = true) (hown : s.vm.findClass own = some m.cls) (hK : zK D cI s) (hX : zX D L ad cI M H) (k : Nat) {fs : List zF} (hk : L[k]? = some (.inl (ci, fs))) (hc : zCl[ci]? = some (C, T, N)) (j : Nat) (hj : j < N) (hlink : Cond.fieldLinkNest own index ref (T j).2.1 (T j).2.2.1 host ∈ lw_tbl) (hsame : ∀ x, s.fieldFound? (T j).1 (T j).2.1 (T j).2.2.1 = some x → s.fieldFound? ref (T j).2.1 (T j).2.2.1 = some x) (hf : fs[j]? = some (.inr (.inl ()))) {i v : Int} (hi : i = (j : Int)) (hv : M k i = v) (hdg : decode cc pc = .ok (.getfield index, 3))
    (kk : -2147483648 ≤ v ∧ v ≤ 2147483647 → W p l e R s m args below meth c H locs cells slots Q (F0 m (pc + 3) ls (.int (zI v) :: rest))) : W p l e R s m args below meth c H locs cells slots Q (F0 m pc ls (.ref (ad k) :: rest)) := by
  subst hi; subst hv
  exact va_getN hx hb (fun w hw => hK.w (hin w hw).1 (hin w hw).2) (fun w hw => hw) hown hK.1 hX.1 k (zW_is hk) hc j hj (hK.nf hlink) hsame (v := .int (zI (M k j))) (by rw [zFs_at, hf]; simp [zFv]) hdg (kk (hX.rg k j))
theorem z_getl (hx : p.tables.exec = Jvm.exec) (hb : c.code = cc) {own ref C : String} {T : u_T} {N ci index : Nat} (hin : ∀ w ∈ u_ws C T N, w ∈ lw_tbl ∧ goodWord w = true) (hown : s.vm.findClass own = some m.cls) (hK : zK D cI s) (hX : zX D L ad cI M H) (k : Nat) {fs : List zF} (hk : L[k]? = some (.inl (ci, fs))) (hc : zCl[ci]? = some (C, T, N)) (j : Nat) (hj : j < N) (hlink : Cond.fieldLink own index ref (T j).2.1 (T j).2.2.1 ∈ lw_tbl) (hsame : ∀ x, s.fieldFound? (T j).1 (T j).2.1 (T j).2.2.1 = some x → s.fieldFound? ref (T j).2.1 (T j).2.2.1 = some x) (q : Int64) (hf : fs[j]? = some (.inr (.inr q))) (hdg : decode cc pc = .ok (.getfield index, 3))
    (kk : W p l e R s m args below meth c H locs cells slots Q (F0 m (pc + 3) ls (.long q :: rest))) : W p l e R s m args below meth c H locs cells slots Q (F0 m pc ls (.ref (ad k) :: rest)) :=
  va_get hx hb (fun w hw => hK.w (hin w hw).1 (hin w hw).2) (fun w hw => hw) hown hK.1 hX.1 k (zW_is hk) hc j hj (hK.w hlink rfl) hsame (v := .long q) (by rw [zFs_at, hf]; rfl) hdg kk
theorem zFs_set (ad : Nat → Nat) (M : zM) (k : Nat) {fs : List zF} {j : Nat} (hf : fs[j]? = some (.inr (.inl ()))) (v : Int) : (zFs ad M k 0 fs).set j (.int (zI v)) = zFs ad (zU M k j v) k 0 fs := by
  apply List.ext_getElem?
  intro i
  rw [List.getElem?_set, zFs_at, zFs_at]
  by_cases hj : j = i
  · subst hj
    have hl : j < (zFs ad M k 0 fs).length := by rw [zFs_len]; exact (List.getElem?_eq_some_iff.mp hf).1
    rw [if_pos rfl, if_pos hl, hf]
    simp [zFv, zU]
  · rw [if_neg hj]
    congr 1
    funext f
    cases f with
    | inl c => rfl
    | inr f =>
      cases f with
      | inl u =>
        simp only [zFv, Nat.zero_add]
        rw [zU_n (by omega)]
      | inr x => rfl
theorem z_puti (hx : p.tables.exec = Jvm.exec) (hb : c.code = cc) {own ref C : String} {T : u_T} {N ci index : Nat} (hin : ∀ w ∈ u_ws C T N, w ∈ lw_tbl ∧ goodWord w = true) (ty0 : Nat → FieldType) (hty : ∀ k, k < N → parseFieldDescriptor (T k).2.2.1 = some (ty0 k)) (hnm : ∀ a, a < N → ∀ b, b < N → a ≠ b → (T a).2.1 ≠ (T b).2.1) (hown : s.vm.findClass own = some m.cls) (hK : zK D cI s) (hX : zX D L ad cI M H) (hS : va_S (zA ad L) H0 H locs) (k : Nat) {fs : List zF} (hk : L[k]? = some (.inl (ci, fs))) (hc : zCl[ci]? = some (C, T, N)) (j : Nat) (hj : j < N) (hlink : Cond.fieldLink own index ref (T j).2.1 (T j).2.2.1 ∈ lw_tbl) (hsame : ∀ x, s.fieldFound? (T j).1 (T j).2.1 (T j).2.2.1 = some x → s.fieldFound? ref (T j).2.1 (T j).2.2.1 = some x) (hfin : (T j).2.2.2 = false) (hd : parseFieldDescriptor (T j).2.2.1 = some .int) (hf : fs[j]? = some (.inr (.inl ()))) {i v : Int} (hi : i = (j : Int)) (hv : -2147483648 ≤ v ∧ v ≤ 2147483647) (hdg : decode cc pc = .ok (.putfield index, 3))
    (kk : ∀ (H1 : Heap) (locs1 : List Loc), zX D L ad cI (zU M k i v) H1 → va_S (zA ad L) H0 H1 locs1 → W p l e R s m args below meth c H1 locs1 cells slots Q (F0 m (pc + 3) ls rest)) : W p l e R s m args below meth c H locs cells slots Q (F0 m pc ls (.int (zI v) :: .ref (ad k) :: rest)) := by
  subst hi
  refine va_put hx hb (fun w hw => hK.w (hin w hw).1 (hin w hw).2) (fun w hw => hw) ty0 hty hnm hown hK.1 hX.1 hX.2.1 hS k (zW_is hk) hc j hj (hK.w hlink rfl) hsame hfin hd (v := .int (zI v)) rfl rfl (by rw [zFs_len]; exact (List.getElem?_eq_some_iff.mp hf).1) hdg (fun H1 locs1 hP hD hS1 => ?_)
  have e : (zW ad cI M 0 L).set k (ad k, .inr (ci, (zFs ad M k 0 fs).set j (.int (zI v)))) = zW ad cI (zU M k j v) 0 L := by
    refine zW_put hk ?_ (fun j hj => zU_k hj)
    simp only [zE]
    rw [zFs_set ad M k hf]
  rw [e] at hP hD
  exact kk H1 locs1 ⟨hP, hD, zU_rg hX.2.2 hv⟩ hS1
theorem z_putiN (hx : p.tables.exec = Jvm.exec) (hb : c.code = cc) {own ref C host : String} {T : u_T} {N ci index : Nat} (hin : ∀ w ∈ u_ws C T N, w ∈ lw_tbl ∧ goodWord w = true) (ty0 : Nat → FieldType) (hty : ∀ k, k < N → parseFieldDescriptor (T k).2.2.1 = some (ty0 k)) (hnm : ∀ a, a < N → ∀ b, b < N → a ≠ b → (T a).2.1 ≠ (T b).2.1) (hown : s.vm.findClass own = some m.cls) (hK : zK D cI s) (hX : zX D L ad cI M H) (hS : va_S (zA ad L) H0 H locs) (k : Nat) {fs : List zF} (hk : L[k]? = some (.inl (ci, fs))) (hc : zCl[ci]? = some (C, T, N)) (j : Nat) (hj : j < N) (hlink : Cond.fieldLinkNest own index ref (T j).2.1 (T j).2.2.1 host ∈ lw_tbl) (hsame : ∀ x, s.fieldFound? (T j).1 (T j).2.1 (T j).2.2.1 = some x → s.fieldFound? ref (T j).2.1 (T j).2.2.1 = some x) (hfin : (T j).2.2.2 = false) (hd : parseFieldDescriptor (T j).2.2.1 = some .int) (hf : fs[j]? = some (.inr (.inl ()))) {i v : Int} (hi : i = (j : Int)) (hv : -2147483648 ≤ v ∧ v ≤ 2147483647) (hdg : decode cc pc = .ok (.putfield index, 3))
    (kk : ∀ (H1 : Heap) (locs1 : List Loc), zX D L ad cI (zU M k i v) H1 → va_S (zA ad L) H0 H1 locs1 → W p l e R s m args below meth c H1 locs1 cells slots Q (F0 m (pc + 3) ls rest)) : W p l e R s m args below meth c H locs cells slots Q (F0 m pc ls (.int (zI v) :: .ref (ad k) :: rest)) := by
  subst hi
  refine va_putN hx hb (fun w hw => hK.w (hin w hw).1 (hin w hw).2) (fun w hw => hw) ty0 hty hnm hown hK.1 hX.1 hX.2.1 hS k (zW_is hk) hc j hj (hK.nf hlink) hsame hfin hd (v := .int (zI v)) rfl rfl (by rw [zFs_len]; exact (List.getElem?_eq_some_iff.mp hf).1) hdg (fun H1 locs1 hP hD hS1 => ?_)
  have e : (zW ad cI M 0 L).set k (ad k, .inr (ci, (zFs ad M k 0 fs).set j (.int (zI v)))) = zW ad cI (zU M k j v) 0 L := by
    refine zW_put hk ?_ (fun j hj => zU_k hj)
    simp only [zE]
    rw [zFs_set ad M k hf]
  rw [e] at hP hD
  exact kk H1 locs1 ⟨hP, hD, zU_rg hX.2.2 hv⟩ hS1
theorem z_putiw (hx : p.tables.exec = Jvm.exec) (hb : c.code = cc) {own ref C : String} {T : u_T} {N ci index : Nat} (hin : ∀ w ∈ u_ws C T N, w ∈ lw_tbl ∧ goodWord w = true) (ty0 : Nat → FieldType) (hty : ∀ k, k < N → parseFieldDescriptor (T k).2.2.1 = some (ty0 k)) (hnm : ∀ a, a < N → ∀ b, b < N → a ≠ b → (T a).2.1 ≠ (T b).2.1) (hown : s.vm.findClass own = some m.cls) (hK : zK D cI s) (hX : zX D L ad cI M H) (hS : va_S (zA ad L) H0 H locs) (k : Nat) {fs : List zF} (hk : L[k]? = some (.inl (ci, fs))) (hc : zCl[ci]? = some (C, T, N)) (j : Nat) (hj : j < N) (hlink : Cond.fieldLink own index ref (T j).2.1 (T j).2.2.1 ∈ lw_tbl) (hsame : ∀ x, s.fieldFound? (T j).1 (T j).2.1 (T j).2.2.1 = some x → s.fieldFound? ref (T j).2.1 (T j).2.2.1 = some x) (hfin : (T j).2.2.2 = false) (hd : parseFieldDescriptor (T j).2.2.1 = some .int) (hf : fs[j]? = some (.inr (.inl ()))) {i v : Int} (hi : i = (j : Int)) (hdg : decode cc pc = .ok (.putfield index, 3))
    (kk : ∀ (H1 : Heap) (locs1 : List Loc), zX D L ad cI (zU M k i (bm v)) H1 → va_S (zA ad L) H0 H1 locs1 → W p l e R s m args below meth c H1 locs1 cells slots Q (F0 m (pc + 3) ls rest)) : W p l e R s m args below meth c H locs cells slots Q (F0 m pc ls (.int (zI v) :: .ref (ad k) :: rest)) := by
  have h := z_puti (p := p) (l := l) (e := e) (R := R) (m := m) (below := below) (meth := meth) (cells := cells) (slots := slots) (Q := Q) (ls := ls) (rest := rest) (v := bm v) hx hb hin ty0 hty hnm hown hK hX hS k hk hc j hj hlink hsame hfin hd hf hi (bm_rg v) hdg kk
  rw [bm_zI] at h
  exact h
theorem z_putiwN (hx : p.tables.exec = Jvm.exec) (hb : c.code = cc) {own ref C host : String} {T : u_T} {N ci index : Nat} (hin : ∀ w ∈ u_ws C T N, w ∈ lw_tbl ∧ goodWord w = true) (ty0 : Nat → FieldType) (hty : ∀ k, k < N → parseFieldDescriptor (T k).2.2.1 = some (ty0 k)) (hnm : ∀ a, a < N → ∀ b, b < N → a ≠ b → (T a).2.1 ≠ (T b).2.1) (hown : s.vm.findClass own = some m.cls) (hK : zK D cI s) (hX : zX D L ad cI M H) (hS : va_S (zA ad L) H0 H locs) (k : Nat) {fs : List zF} (hk : L[k]? = some (.inl (ci, fs))) (hc : zCl[ci]? = some (C, T, N)) (j : Nat) (hj : j < N) (hlink : Cond.fieldLinkNest own index ref (T j).2.1 (T j).2.2.1 host ∈ lw_tbl) (hsame : ∀ x, s.fieldFound? (T j).1 (T j).2.1 (T j).2.2.1 = some x → s.fieldFound? ref (T j).2.1 (T j).2.2.1 = some x) (hfin : (T j).2.2.2 = false) (hd : parseFieldDescriptor (T j).2.2.1 = some .int) (hf : fs[j]? = some (.inr (.inl ()))) {i v : Int} (hi : i = (j : Int)) (hdg : decode cc pc = .ok (.putfield index, 3))
    (kk : ∀ (H1 : Heap) (locs1 : List Loc), zX D L ad cI (zU M k i (bm v)) H1 → va_S (zA ad L) H0 H1 locs1 → W p l e R s m args below meth c H1 locs1 cells slots Q (F0 m (pc + 3) ls rest)) : W p l e R s m args below meth c H locs cells slots Q (F0 m pc ls (.int (zI v) :: .ref (ad k) :: rest)) := by
  have h := z_putiN (p := p) (l := l) (e := e) (R := R) (m := m) (below := below) (meth := meth) (cells := cells) (slots := slots) (Q := Q) (ls := ls) (rest := rest) (v := bm v) hx hb hin ty0 hty hnm hown hK hX hS k hk hc j hj hlink hsame hfin hd hf hi (bm_rg v) hdg kk
  rw [bm_zI] at h
  exact h
theorem z_mmax (hx : p.tables.exec = Jvm.exec) (hb : c.code = cc) (hml : c.maxLocals = ls.size) {own : String} {index : Nat} (hown : s.vm.findClass own = some m.cls) (hK : zK D cI s) (hlink : Cond.methodLink own index Lib.Math.max.name ∈ lw_tbl) (hstat : Cond.static Lib.Math.max.name ∈ lw_tbl) (hini : Cond.initialized "java/lang/Math" ∈ lw_tbl) (hcode : Cond.code Lib.Math.max.name Lib.Math.max.code 2 (some .int) ∈ lw_tbl)
    (hframes : 1 ≤ R.frames) (hlocals : (rest.map fun v => v.category).sum + 13 ≤ R.locals) (hc : cells ≤ R.cells) (hs : slots ≤ R.slots) {a b : Int} (hr : (-2147483648 ≤ a ∧ a ≤ 2147483647) ∧ -2147483648 ≤ b ∧ b ≤ 2147483647) (hdg : decode cc pc = .ok (.invokestatic index, 3))
    (kk : W p l e R s m args below meth c H locs cells slots Q (F0 m (pc + 3) ls (.int (zI (max a b)) :: rest))) : W p l e R s m args below meth c H locs cells slots Q (F0 m pc ls (.int (zI b) :: .int (zI a) :: rest)) := by
  refine va_mmax hx hb hml hown (hK.w hlink rfl) (hK.w hstat rfl) (hK.w hini rfl) (hK.w hcode rfl) hframes hlocals hc hs hdg ?_
  have e : (if zI a < zI b then zI b else zI a) = zI (max a b) := by
    by_cases h : a < b
    · rw [if_pos ((zI_lt hr).mpr h), show max a b = b by omega]
    · rw [if_neg (fun q => h ((zI_lt hr).mp q)), show max a b = a by omega]
  rw [e]; exact kk
theorem z_mmin (hx : p.tables.exec = Jvm.exec) (hb : c.code = cc) (hml : c.maxLocals = ls.size) {own : String} {index : Nat} (hown : s.vm.findClass own = some m.cls) (hK : zK D cI s) (hlink : Cond.methodLink own index Lib.Math.min.name ∈ lw_tbl) (hstat : Cond.static Lib.Math.min.name ∈ lw_tbl) (hini : Cond.initialized "java/lang/Math" ∈ lw_tbl) (hcode : Cond.code Lib.Math.min.name Lib.Math.min.code 2 (some .int) ∈ lw_tbl)
    (hframes : 1 ≤ R.frames) (hlocals : (rest.map fun v => v.category).sum + 13 ≤ R.locals) (hc : cells ≤ R.cells) (hs : slots ≤ R.slots) {a b : Int} (hr : (-2147483648 ≤ a ∧ a ≤ 2147483647) ∧ -2147483648 ≤ b ∧ b ≤ 2147483647) (hdg : decode cc pc = .ok (.invokestatic index, 3))
    (kk : W p l e R s m args below meth c H locs cells slots Q (F0 m (pc + 3) ls (.int (zI (min a b)) :: rest))) : W p l e R s m args below meth c H locs cells slots Q (F0 m pc ls (.int (zI b) :: .int (zI a) :: rest)) := by
  refine va_mmin hx hb hml hown (hK.w hlink rfl) (hK.w hstat rfl) (hK.w hini rfl) (hK.w hcode rfl) hframes hlocals hc hs hdg ?_
  have e : (if zI b < zI a then zI b else zI a) = zI (min a b) := by
    by_cases h : b < a
    · rw [if_pos ((zI_lt ⟨hr.2, hr.1⟩).mpr h), show min a b = b by omega]
    · rw [if_neg (fun q => h ((zI_lt ⟨hr.2, hr.1⟩).mp q)), show min a b = a by omega]
  rw [e]; exact kk
end ZROWS
end
