section
-- ===== PART A: goes FIRST, ahead of the names: the tables' words, and 'selects' of the private methods out of them =====
/-- a private method of a class that the tables say can be made, by its rows of tables_1 -/
def lw_okq (q : MethodName × Nat) : Prop := (q.1.cls ≠ "java/lang/invoke/MethodHandle" ∧ q.1.cls ≠ "java/lang/invoke/VarHandle") ∧ Cond.instantiable q.1.cls q.2 ∈ tables_1 ∧ Cond.privateMethod q.1 ∈ tables_1 ∧ Cond.instanceMethod q.1 ∈ tables_1
theorem lw_p0 : lw_okq (⟨"java/lang/Throwable", "fillInStackTrace", "(I)Ljava/lang/Throwable;"⟩, 6) := ⟨⟨by decide +kernel, by decide +kernel⟩, List.mem_of_getElem? (i := 223) (by decide +kernel), List.mem_of_getElem? (i := 221) (by decide +kernel), List.mem_of_getElem? (i := 222) (by decide +kernel)⟩
theorem lw_p1 : lw_okq (⟨"PersonSeeds$Rooms", "add", "(I)I"⟩, 5) := ⟨⟨by decide +kernel, by decide +kernel⟩, List.mem_of_getElem? (i := 23) (by decide +kernel), List.mem_of_getElem? (i := 272) (by decide +kernel), List.mem_of_getElem? (i := 273) (by decide +kernel)⟩
theorem lw_p2 : lw_okq (⟨"PersonSeeds$Persons", "plan", "(I)V"⟩, 9) := ⟨⟨by decide +kernel, by decide +kernel⟩, List.mem_of_getElem? (i := 103) (by decide +kernel), List.mem_of_getElem? (i := 276) (by decide +kernel), List.mem_of_getElem? (i := 277) (by decide +kernel)⟩
theorem lw_p3 : lw_okq (⟨"PersonSeeds$Persons", "drawn", "(III)I"⟩, 9) := ⟨⟨by decide +kernel, by decide +kernel⟩, List.mem_of_getElem? (i := 103) (by decide +kernel), List.mem_of_getElem? (i := 280) (by decide +kernel), List.mem_of_getElem? (i := 281) (by decide +kernel)⟩
theorem lw_p4 : lw_okq (⟨"PersonSeeds", "checkRoom", "(I)V"⟩, 7) := ⟨⟨by decide +kernel, by decide +kernel⟩, List.mem_of_getElem? (i := 15) (by decide +kernel), List.mem_of_getElem? (i := 294) (by decide +kernel), List.mem_of_getElem? (i := 295) (by decide +kernel)⟩
theorem lw_p5 : lw_okq (⟨"PersonSeeds$Doors", "add", "(III)I"⟩, 8) := ⟨⟨by decide +kernel, by decide +kernel⟩, List.mem_of_getElem? (i := 50) (by decide +kernel), List.mem_of_getElem? (i := 302) (by decide +kernel), List.mem_of_getElem? (i := 303) (by decide +kernel)⟩
theorem lw_p6 : lw_okq (⟨"PersonSeeds$Doors", "shortenWays", "(II)V"⟩, 8) := ⟨⟨by decide +kernel, by decide +kernel⟩, List.mem_of_getElem? (i := 50) (by decide +kernel), List.mem_of_getElem? (i := 306) (by decide +kernel), List.mem_of_getElem? (i := 307) (by decide +kernel)⟩
theorem lw_p7 : lw_okq (⟨"PersonSeeds$Doors", "stepsBetween", "(II)I"⟩, 8) := ⟨⟨by decide +kernel, by decide +kernel⟩, List.mem_of_getElem? (i := 50) (by decide +kernel), List.mem_of_getElem? (i := 310) (by decide +kernel), List.mem_of_getElem? (i := 311) (by decide +kernel)⟩
theorem lw_p8 : lw_okq (⟨"PersonSeeds$Persons", "add", "(II)V"⟩, 9) := ⟨⟨by decide +kernel, by decide +kernel⟩, List.mem_of_getElem? (i := 103) (by decide +kernel), List.mem_of_getElem? (i := 324) (by decide +kernel), List.mem_of_getElem? (i := 325) (by decide +kernel)⟩
theorem lw_p9 : lw_okq (⟨"PersonSeeds", "passMinute", "()V"⟩, 7) := ⟨⟨by decide +kernel, by decide +kernel⟩, List.mem_of_getElem? (i := 15) (by decide +kernel), List.mem_of_getElem? (i := 344) (by decide +kernel), List.mem_of_getElem? (i := 345) (by decide +kernel)⟩
theorem lw_p10 : lw_okq (⟨"PersonSeeds$Doors", "beginMinute", "()V"⟩, 8) := ⟨⟨by decide +kernel, by decide +kernel⟩, List.mem_of_getElem? (i := 50) (by decide +kernel), List.mem_of_getElem? (i := 348) (by decide +kernel), List.mem_of_getElem? (i := 349) (by decide +kernel)⟩
theorem lw_p11 : lw_okq (⟨"PersonSeeds", "tryStep", "(I)V"⟩, 7) := ⟨⟨by decide +kernel, by decide +kernel⟩, List.mem_of_getElem? (i := 15) (by decide +kernel), List.mem_of_getElem? (i := 352) (by decide +kernel), List.mem_of_getElem? (i := 353) (by decide +kernel)⟩
theorem lw_p12 : lw_okq (⟨"PersonSeeds$Trails", "placeNow", "(I)I"⟩, 3) := ⟨⟨by decide +kernel, by decide +kernel⟩, List.mem_of_getElem? (i := 87) (by decide +kernel), List.mem_of_getElem? (i := 356) (by decide +kernel), List.mem_of_getElem? (i := 357) (by decide +kernel)⟩
theorem lw_p13 : lw_okq (⟨"PersonSeeds$Persons", "wants", "(II)I"⟩, 9) := ⟨⟨by decide +kernel, by decide +kernel⟩, List.mem_of_getElem? (i := 103) (by decide +kernel), List.mem_of_getElem? (i := 360) (by decide +kernel), List.mem_of_getElem? (i := 361) (by decide +kernel)⟩
theorem lw_p14 : lw_okq (⟨"PersonSeeds", "tryEntrance", "(I)V"⟩, 7) := ⟨⟨by decide +kernel, by decide +kernel⟩, List.mem_of_getElem? (i := 15) (by decide +kernel), List.mem_of_getElem? (i := 364) (by decide +kernel), List.mem_of_getElem? (i := 365) (by decide +kernel)⟩
theorem lw_p15 : lw_okq (⟨"PersonSeeds$Rooms", "hasSpace", "(I)Z"⟩, 5) := ⟨⟨by decide +kernel, by decide +kernel⟩, List.mem_of_getElem? (i := 23) (by decide +kernel), List.mem_of_getElem? (i := 368) (by decide +kernel), List.mem_of_getElem? (i := 369) (by decide +kernel)⟩
def lw_privs_1 : List (MethodName × Nat) := [(⟨"java/lang/Throwable", "fillInStackTrace", "(I)Ljava/lang/Throwable;"⟩, 6), (⟨"PersonSeeds$Rooms", "add", "(I)I"⟩, 5), (⟨"PersonSeeds$Persons", "plan", "(I)V"⟩, 9), (⟨"PersonSeeds$Persons", "drawn", "(III)I"⟩, 9), (⟨"PersonSeeds", "checkRoom", "(I)V"⟩, 7), (⟨"PersonSeeds$Doors", "add", "(III)I"⟩, 8), (⟨"PersonSeeds$Doors", "shortenWays", "(II)V"⟩, 8), (⟨"PersonSeeds$Doors", "stepsBetween", "(II)I"⟩, 8), (⟨"PersonSeeds$Persons", "add", "(II)V"⟩, 9), (⟨"PersonSeeds", "passMinute", "()V"⟩, 7), (⟨"PersonSeeds$Doors", "beginMinute", "()V"⟩, 8), (⟨"PersonSeeds", "tryStep", "(I)V"⟩, 7), (⟨"PersonSeeds$Trails", "placeNow", "(I)I"⟩, 3), (⟨"PersonSeeds$Persons", "wants", "(II)I"⟩, 9), (⟨"PersonSeeds", "tryEntrance", "(I)V"⟩, 7), (⟨"PersonSeeds$Rooms", "hasSpace", "(I)Z"⟩, 5)]
theorem lw_r1 : ∀ q ∈ lw_privs_1, lw_okq q := List.forall_mem_cons.mpr ⟨lw_p0, List.forall_mem_cons.mpr ⟨lw_p1, List.forall_mem_cons.mpr ⟨lw_p2, List.forall_mem_cons.mpr ⟨lw_p3, List.forall_mem_cons.mpr ⟨lw_p4, List.forall_mem_cons.mpr ⟨lw_p5, List.forall_mem_cons.mpr ⟨lw_p6, List.forall_mem_cons.mpr ⟨lw_p7, List.forall_mem_cons.mpr ⟨lw_p8, List.forall_mem_cons.mpr ⟨lw_p9, List.forall_mem_cons.mpr ⟨lw_p10, List.forall_mem_cons.mpr ⟨lw_p11, List.forall_mem_cons.mpr ⟨lw_p12, List.forall_mem_cons.mpr ⟨lw_p13, List.forall_mem_cons.mpr ⟨lw_p14, List.forall_mem_cons.mpr ⟨lw_p15, fun _ h => absurd h List.not_mem_nil⟩⟩⟩⟩⟩⟩⟩⟩⟩⟩⟩⟩⟩⟩⟩⟩
theorem lw_p16 : lw_okq (⟨"PersonSeeds$Trails", "add", "(III)V"⟩, 3) := ⟨⟨by decide +kernel, by decide +kernel⟩, List.mem_of_getElem? (i := 87) (by decide +kernel), List.mem_of_getElem? (i := 372) (by decide +kernel), List.mem_of_getElem? (i := 373) (by decide +kernel)⟩
theorem lw_p17 : lw_okq (⟨"PersonSeeds", "tryDoor", "(III)V"⟩, 7) := ⟨⟨by decide +kernel, by decide +kernel⟩, List.mem_of_getElem? (i := 15) (by decide +kernel), List.mem_of_getElem? (i := 376) (by decide +kernel), List.mem_of_getElem? (i := 377) (by decide +kernel)⟩
theorem lw_p18 : lw_okq (⟨"PersonSeeds$Doors", "towards", "(II)I"⟩, 8) := ⟨⟨by decide +kernel, by decide +kernel⟩, List.mem_of_getElem? (i := 50) (by decide +kernel), List.mem_of_getElem? (i := 380) (by decide +kernel), List.mem_of_getElem? (i := 381) (by decide +kernel)⟩
theorem lw_p19 : lw_okq (⟨"PersonSeeds$Doors", "behind", "(II)I"⟩, 8) := ⟨⟨by decide +kernel, by decide +kernel⟩, List.mem_of_getElem? (i := 50) (by decide +kernel), List.mem_of_getElem? (i := 384) (by decide +kernel), List.mem_of_getElem? (i := 385) (by decide +kernel)⟩
theorem lw_p20 : lw_okq (⟨"PersonSeeds$Doors", "isFree", "(I)Z"⟩, 8) := ⟨⟨by decide +kernel, by decide +kernel⟩, List.mem_of_getElem? (i := 50) (by decide +kernel), List.mem_of_getElem? (i := 389) (by decide +kernel), List.mem_of_getElem? (i := 390) (by decide +kernel)⟩
theorem lw_p21 : lw_okq (⟨"PersonSeeds$Doors", "pass", "(II)V"⟩, 8) := ⟨⟨by decide +kernel, by decide +kernel⟩, List.mem_of_getElem? (i := 50) (by decide +kernel), List.mem_of_getElem? (i := 393) (by decide +kernel), List.mem_of_getElem? (i := 394) (by decide +kernel)⟩
theorem lw_p22 : lw_okq (⟨"PersonSeeds", "goOut", "(I)V"⟩, 7) := ⟨⟨by decide +kernel, by decide +kernel⟩, List.mem_of_getElem? (i := 15) (by decide +kernel), List.mem_of_getElem? (i := 397) (by decide +kernel), List.mem_of_getElem? (i := 398) (by decide +kernel)⟩
theorem lw_p23 : lw_okq (⟨"PersonSeeds$Rooms", "endMinute", "()V"⟩, 5) := ⟨⟨by decide +kernel, by decide +kernel⟩, List.mem_of_getElem? (i := 23) (by decide +kernel), List.mem_of_getElem? (i := 401) (by decide +kernel), List.mem_of_getElem? (i := 402) (by decide +kernel)⟩
theorem lw_p24 : lw_okq (⟨"PersonSeeds", "checkPerson", "(I)V"⟩, 7) := ⟨⟨by decide +kernel, by decide +kernel⟩, List.mem_of_getElem? (i := 15) (by decide +kernel), List.mem_of_getElem? (i := 416) (by decide +kernel), List.mem_of_getElem? (i := 417) (by decide +kernel)⟩
theorem lw_p25 : lw_okq (⟨"PersonSeeds", "checkOver", "(I)V"⟩, 7) := ⟨⟨by decide +kernel, by decide +kernel⟩, List.mem_of_getElem? (i := 15) (by decide +kernel), List.mem_of_getElem? (i := 434) (by decide +kernel), List.mem_of_getElem? (i := 435) (by decide +kernel)⟩
theorem lw_p26 : lw_okq (⟨"PersonSeeds$Trails", "placeBehind", "(II)I"⟩, 3) := ⟨⟨by decide +kernel, by decide +kernel⟩, List.mem_of_getElem? (i := 87) (by decide +kernel), List.mem_of_getElem? (i := 438) (by decide +kernel), List.mem_of_getElem? (i := 439) (by decide +kernel)⟩
theorem lw_p27 : lw_okq (⟨"PersonSeeds$Trails", "firstJoining", "(II)I"⟩, 3) := ⟨⟨by decide +kernel, by decide +kernel⟩, List.mem_of_getElem? (i := 87) (by decide +kernel), List.mem_of_getElem? (i := 485) (by decide +kernel), List.mem_of_getElem? (i := 486) (by decide +kernel)⟩
theorem lw_p28 : lw_okq (⟨"PersonSeedsModel", "may", "(ZZ)Z"⟩, 23) := ⟨⟨by decide +kernel, by decide +kernel⟩, List.mem_of_getElem? (i := 492) (by decide +kernel), List.mem_of_getElem? (i := 581) (by decide +kernel), List.mem_of_getElem? (i := 582) (by decide +kernel)⟩
theorem lw_p29 : lw_okq (⟨"PersonSeedsModel", "isRoom", "(I)Z"⟩, 23) := ⟨⟨by decide +kernel, by decide +kernel⟩, List.mem_of_getElem? (i := 492) (by decide +kernel), List.mem_of_getElem? (i := 589) (by decide +kernel), List.mem_of_getElem? (i := 590) (by decide +kernel)⟩
theorem lw_p30 : lw_okq (⟨"PersonSeedsModel", "shorten", "(II)V"⟩, 23) := ⟨⟨by decide +kernel, by decide +kernel⟩, List.mem_of_getElem? (i := 492) (by decide +kernel), List.mem_of_getElem? (i := 594) (by decide +kernel), List.mem_of_getElem? (i := 595) (by decide +kernel)⟩
theorem lw_p31 : lw_okq (⟨"PersonSeedsModel", "drawn", "(III)I"⟩, 23) := ⟨⟨by decide +kernel, by decide +kernel⟩, List.mem_of_getElem? (i := 492) (by decide +kernel), List.mem_of_getElem? (i := 610) (by decide +kernel), List.mem_of_getElem? (i := 611) (by decide +kernel)⟩
def lw_privs_2 : List (MethodName × Nat) := [(⟨"PersonSeeds$Trails", "add", "(III)V"⟩, 3), (⟨"PersonSeeds", "tryDoor", "(III)V"⟩, 7), (⟨"PersonSeeds$Doors", "towards", "(II)I"⟩, 8), (⟨"PersonSeeds$Doors", "behind", "(II)I"⟩, 8), (⟨"PersonSeeds$Doors", "isFree", "(I)Z"⟩, 8), (⟨"PersonSeeds$Doors", "pass", "(II)V"⟩, 8), (⟨"PersonSeeds", "goOut", "(I)V"⟩, 7), (⟨"PersonSeeds$Rooms", "endMinute", "()V"⟩, 5), (⟨"PersonSeeds", "checkPerson", "(I)V"⟩, 7), (⟨"PersonSeeds", "checkOver", "(I)V"⟩, 7), (⟨"PersonSeeds$Trails", "placeBehind", "(II)I"⟩, 3), (⟨"PersonSeeds$Trails", "firstJoining", "(II)I"⟩, 3), (⟨"PersonSeedsModel", "may", "(ZZ)Z"⟩, 23), (⟨"PersonSeedsModel", "isRoom", "(I)Z"⟩, 23), (⟨"PersonSeedsModel", "shorten", "(II)V"⟩, 23), (⟨"PersonSeedsModel", "drawn", "(III)I"⟩, 23)]
theorem lw_r2 : ∀ q ∈ lw_privs_2, lw_okq q := List.forall_mem_cons.mpr ⟨lw_p16, List.forall_mem_cons.mpr ⟨lw_p17, List.forall_mem_cons.mpr ⟨lw_p18, List.forall_mem_cons.mpr ⟨lw_p19, List.forall_mem_cons.mpr ⟨lw_p20, List.forall_mem_cons.mpr ⟨lw_p21, List.forall_mem_cons.mpr ⟨lw_p22, List.forall_mem_cons.mpr ⟨lw_p23, List.forall_mem_cons.mpr ⟨lw_p24, List.forall_mem_cons.mpr ⟨lw_p25, List.forall_mem_cons.mpr ⟨lw_p26, List.forall_mem_cons.mpr ⟨lw_p27, List.forall_mem_cons.mpr ⟨lw_p28, List.forall_mem_cons.mpr ⟨lw_p29, List.forall_mem_cons.mpr ⟨lw_p30, List.forall_mem_cons.mpr ⟨lw_p31, fun _ h => absurd h List.not_mem_nil⟩⟩⟩⟩⟩⟩⟩⟩⟩⟩⟩⟩⟩⟩⟩⟩
theorem lw_p32 : lw_okq (⟨"PersonSeedsModel", "oneMinute", "()V"⟩, 23) := ⟨⟨by decide +kernel, by decide +kernel⟩, List.mem_of_getElem? (i := 492) (by decide +kernel), List.mem_of_getElem? (i := 623) (by decide +kernel), List.mem_of_getElem? (i := 624) (by decide +kernel)⟩
theorem lw_p33 : lw_okq (⟨"PersonSeedsModel", "step", "(I)V"⟩, 23) := ⟨⟨by decide +kernel, by decide +kernel⟩, List.mem_of_getElem? (i := 492) (by decide +kernel), List.mem_of_getElem? (i := 627) (by decide +kernel), List.mem_of_getElem? (i := 628) (by decide +kernel)⟩
theorem lw_p34 : lw_okq (⟨"PersonSeedsModel", "wants", "(I)I"⟩, 23) := ⟨⟨by decide +kernel, by decide +kernel⟩, List.mem_of_getElem? (i := 492) (by decide +kernel), List.mem_of_getElem? (i := 631) (by decide +kernel), List.mem_of_getElem? (i := 632) (by decide +kernel)⟩
theorem lw_p35 : lw_okq (⟨"PersonSeedsModel", "tell", "(II)I"⟩, 23) := ⟨⟨by decide +kernel, by decide +kernel⟩, List.mem_of_getElem? (i := 492) (by decide +kernel), List.mem_of_getElem? (i := 635) (by decide +kernel), List.mem_of_getElem? (i := 636) (by decide +kernel)⟩
theorem lw_p36 : lw_okq (⟨"PersonSeedsModel", "goes", "(II)Z"⟩, 23) := ⟨⟨by decide +kernel, by decide +kernel⟩, List.mem_of_getElem? (i := 492) (by decide +kernel), List.mem_of_getElem? (i := 639) (by decide +kernel), List.mem_of_getElem? (i := 640) (by decide +kernel)⟩
theorem lw_p37 : lw_okq (⟨"PersonSeedsModel", "throughDoor", "(II)V"⟩, 23) := ⟨⟨by decide +kernel, by decide +kernel⟩, List.mem_of_getElem? (i := 492) (by decide +kernel), List.mem_of_getElem? (i := 643) (by decide +kernel), List.mem_of_getElem? (i := 644) (by decide +kernel)⟩
theorem lw_p38 : lw_okq (⟨"PersonSeedsModel", "doorOf", "(II)I"⟩, 23) := ⟨⟨by decide +kernel, by decide +kernel⟩, List.mem_of_getElem? (i := 492) (by decide +kernel), List.mem_of_getElem? (i := 647) (by decide +kernel), List.mem_of_getElem? (i := 648) (by decide +kernel)⟩
theorem lw_p39 : lw_okq (⟨"PersonSeedsModel", "isPerson", "(I)Z"⟩, 23) := ⟨⟨by decide +kernel, by decide +kernel⟩, List.mem_of_getElem? (i := 492) (by decide +kernel), List.mem_of_getElem? (i := 655) (by decide +kernel), List.mem_of_getElem? (i := 656) (by decide +kernel)⟩
theorem lw_p40 : lw_okq (⟨"PersonSeedsModel", "isOver", "(I)Z"⟩, 23) := ⟨⟨by decide +kernel, by decide +kernel⟩, List.mem_of_getElem? (i := 492) (by decide +kernel), List.mem_of_getElem? (i := 668) (by decide +kernel), List.mem_of_getElem? (i := 669) (by decide +kernel)⟩
def lw_privs_3 : List (MethodName × Nat) := [(⟨"PersonSeedsModel", "oneMinute", "()V"⟩, 23), (⟨"PersonSeedsModel", "step", "(I)V"⟩, 23), (⟨"PersonSeedsModel", "wants", "(I)I"⟩, 23), (⟨"PersonSeedsModel", "tell", "(II)I"⟩, 23), (⟨"PersonSeedsModel", "goes", "(II)Z"⟩, 23), (⟨"PersonSeedsModel", "throughDoor", "(II)V"⟩, 23), (⟨"PersonSeedsModel", "doorOf", "(II)I"⟩, 23), (⟨"PersonSeedsModel", "isPerson", "(I)Z"⟩, 23), (⟨"PersonSeedsModel", "isOver", "(I)Z"⟩, 23)]
theorem lw_r3 : ∀ q ∈ lw_privs_3, lw_okq q := List.forall_mem_cons.mpr ⟨lw_p32, List.forall_mem_cons.mpr ⟨lw_p33, List.forall_mem_cons.mpr ⟨lw_p34, List.forall_mem_cons.mpr ⟨lw_p35, List.forall_mem_cons.mpr ⟨lw_p36, List.forall_mem_cons.mpr ⟨lw_p37, List.forall_mem_cons.mpr ⟨lw_p38, List.forall_mem_cons.mpr ⟨lw_p39, List.forall_mem_cons.mpr ⟨lw_p40, fun _ h => absurd h List.not_mem_nil⟩⟩⟩⟩⟩⟩⟩⟩⟩
def lw_privs : List (MethodName × Nat) := lw_privs_1 ++ (lw_privs_2 ++ (lw_privs_3))
def lw_tbl : List Cond := k2_sels lw_privs ++ tables_1
theorem lw_privs_ok : ∀ q ∈ lw_privs, lw_okq q := by
  show ∀ q ∈ lw_privs_1 ++ (lw_privs_2 ++ (lw_privs_3)), lw_okq q
  exact List.forall_mem_append.mpr ⟨lw_r1, List.forall_mem_append.mpr ⟨lw_r2, lw_r3⟩⟩
-- ===== end of PART A; then your names; then what follows =====
end
section
/-! ===== BEGIN words of one list among another's, by their places ===== -/
theorem goodIn_r {big : List Cond} (ws : List Cond) (ps : List Nat) (hp : ws = ps.filterMap (fun i => big[i]?)) (h : ws.all goodWord = true) : GoodIn big ws := by
  intro w hw
  have h1 := List.all_eq_true.mp h w hw
  rw [hp] at hw
  obtain ⟨i, -, hi⟩ := List.mem_filterMap.mp hw
  have hm : w ∈ big := by first | exact List.mem_of_getElem? hi | exact List.getElem?_mem hi
  exact ⟨hm, good_of_word h1⟩
theorem goodIn_app {big a b : List Cond} (ha : GoodIn big a) (hb : GoodIn big b) : GoodIn big (a ++ b) := fun w h => (List.mem_append.mp h).elim (ha w) (hb w)
theorem goodIn_ca {big a b : List Cond} {c : Cond} (ha : GoodIn big (c :: a)) (hb : GoodIn big b) : GoodIn big (c :: (a ++ b)) := fun w h => (List.mem_cons.mp h).elim (fun e => ha w (List.mem_cons.mpr (Or.inl e))) (fun h => (List.mem_append.mp h).elim (fun h => ha w (List.mem_cons.mpr (Or.inr h))) (hb w))
theorem goodIn_sub {big ws : List Cond} (hm : ∀ w ∈ ws, w ∈ big) (h : ws.all goodWord = true) : GoodIn big ws := fun w hw => ⟨hm w hw, good_of_word (List.all_eq_true.mp h w hw)⟩
/-! ===== END ===== -/

/-! ===== BEGIN exceptions that leave a method, and their catching by the caller (launches without stack traces) ===== -/
section VXA
/-! The laws vx_back, vx_callV, vx_callS, vx_callSW, vx_throw0, vx_throwS follow proofs of the library, with one case more: JvmDerived/Free/Laws.lean (Back.of_free), Shelf42/LK1.lean (callV, callS), Shelf/KitTraced.lean (throwNew0V, throwNewS). -/
/-- where a method has thrown q: the class by its name, the cell, what was written, the world -/
def vx_T (XC : String → State → State → Prop) (st : State) (q : Addr) (t : State) (mc ms : Nat) (free : Addr → Prop) : Prop :=
  ∃ (E : String) (ce : Cell) (L : List Loc), XC E st t ∧ t.heap[q]? = some ce ∧ ce.vm = .none ∧ st.vm.findClass E = some ce.cls ∧ st.WarmedH t.vm ∧ st.sameButNew ({ t with vm := st.vm } : State) L mc ms ∧ ∀ z ∈ L, free z.base
def vx_Q (Qc : Array Value → State → Outcome → State → Prop) (XC : String → State → State → Prop) (mc ms : Nat) (free : Addr → Prop) : Array Value → State → Outcome → State → Prop := fun a st o t =>
  (Qc a st o t ∧ ∃ L, FrameEnd st o t L mc ms ∧ ∀ q ∈ L, free q.base) ∨ ∃ q, o = .threw q ∧ vx_T XC st q t mc ms free
/-- a callee that returns or throws -/
def vx_Met (l : Launch) (y : MethodName) (ws : List Cond) (rm : Room) (Pc : Array Value → State → Prop) (Qc : Array Value → State → Outcome → State → Prop) (XC : String → State → State → Prop) (mc ms : Nat) (free : Addr → Prop) : Prop :=
  MetFree l y (headSpec ws rm) Pc (fun _ _ _ _ _ => True) (vx_Q Qc XC mc ms free)
def vx_Post (XC : String → State → State → Prop) (mc ms : Nat) (free : Addr → Prop) : Pt → Array Value → Addr → Pt → Prop := fun A a q B =>
  ∃ (g : JFrame) (mk : MethodId) (t : State) (L : List Loc) (E : String) (ce : Cell), B.U.heap = t.heap ∧ B.U.vm = t.vm ∧ XC E (A.U.calling g mk a) t ∧ t.heap[q]? = some ce ∧ ce.vm = .none ∧ A.U.vm.findClass E = some ce.cls ∧ B.locs = A.locs ++ L ∧ (∀ z ∈ L, free z.base) ∧ B.cells = A.cells + mc ∧ B.slots = A.slots + ms
def vx_Back (l : Launch) (R : Room) (p : Program) (e : Env) (below : List Frame) (s : State) (sargs : Array Value) (y : MethodName) (len W9 : Nat)
    (Pre : Pt → Array Value → Prop) (Post : Pt → Array Value → Option Value → Pt → Prop) (PostX : Pt → Array Value → Addr → Pt → Prop) : Prop :=
  ∀ (m : MethodId) (meth : Method) (c : Code) (A : Pt) (g : JFrame) (ig : Instr) (mk : MethodId) (a : Array Value),
    Stand p l e R s m sargs below meth c A.U A.locs A.cells A.slots → g.method = m → g.locals.size = c.maxLocals → decode c.code g.pc = .ok (ig, len) →
    2 * g.monitorRoom + (g.stack.map fun v => v.category).sum ≤ W9 → A.U.methodNamed? y = some mk → Pre A a →
    (∃ (v : Option Value) (B : Pt), Stand p l e R s m sargs below meth c B.U B.locs B.cells B.slots ∧ Post A a v B ∧
      Steps p.tables e below (doInvoke e (A.U.setTop g) [] mk a).1 (B.U.setTop { g with pc := g.pc + len, stack := v.toList ++ g.stack })) ∨
    (∃ (q : Addr) (B : Pt), Stand p l e R s m sargs below meth c B.U B.locs B.cells B.slots ∧ PostX A a q B ∧
      Steps p.tables e below (doInvoke e (A.U.setTop g) [] mk a).1 ((B.U.setTop g).pushFrame (.throwing q)))
section Payer
variable {l : Launch} {R : Room} {p : Program} {e : Env} {below : List Frame} {s : State} {sargs : Array Value} {y : MethodName} {len W9 : Nat}
theorem vx_back {ws : List Cond} {rm : Room} {Pc : Array Value → State → Prop} {Qc : Array Value → State → Outcome → State → Prop} {XC : String → State → State → Prop} {mc ms : Nat} {free : Addr → Prop} {bytes : ByteArray} {maxL : Nat} {ret : Option FieldType}
    (hM : vx_Met l y ws rm Pc Qc XC mc ms free) (hblind : FrameBlind Pc) (hrc : rm.cells = mc) (hrs : rm.slots = ms)
    (hframes : rm.frames + 1 ≤ R.frames) (hlocals : W9 + (maxL + 11) + rm.locals ≤ R.locals)
    (hws : ∀ w ∈ ws, ∀ a' U, s.WarmedH U.vm → w.before a' U = true) (hcode : Cond.code y bytes maxL ret ∈ ws) (hinit : ∀ a' U, s.WarmedH U.vm → (Cond.initialized y.cls).before a' U = true) :
    vx_Back l R p e below s sargs y len W9 (PreOf R mc ms Pc) (PostOf Qc mc ms free) (vx_Post XC mc ms free) := by
  intro m meth c A g ig mk a X hg hsize hdg hW hn hp
  have h1 : (headSpec ws rm).pre.before a A.U = true := atoms_intro fun w hw => hws w hw _ _ X.warmed
  have h2 : (Cond.code y bytes maxL ret).before a A.U = true := hws _ hcode _ _ X.warmed
  have h3 : (Cond.initialized y.cls).before a A.U = true := hinit _ _ X.warmed
  have h4 : A.cells + (headSpec ws rm).room.cells ≤ R.cells := by rw [show (headSpec ws rm).room.cells = mc from hrc]; exact hp.1
  have h5 : A.slots + (headSpec ws rm).room.slots ≤ R.slots := by rw [show (headSpec ws rm).room.slots = ms from hrs]; exact hp.2.1
  have hPc : Pc a (A.U.calling g mk a) := hblind _ _ _ _ hp.2.2
  obtain ⟨U, Ls, c0, s0⟩ := A
  dsimp only [Pt.U, Pt.locs, Pt.cells, Pt.slots] at h1 h2 h3 h4 h5 X hn hPc ⊢
  obtain ⟨methY, cY, hmY, hcY, -, hlY, -, -, -, -⟩ := Cond.code_spec hn h2
  obtain ⟨kY, hkY, -⟩ := className_of_methodNamed hn
  have hinitY : kY.init = .initialized := Cond.initialized_spec (findClass_of_methodNamed hn) hkY h3
  have h : At U g.method c below := by rw [hg]; exact X.here
  have hlocals9 : W9 + (maxL + 11) + (headSpec ws rm).room.locals ≤ R.locals := hlocals
  have happ : (headSpec ws rm).appliesLoose y e.platform (U.calling g mk a) = true :=
    Spec.appliesLoose_calling (g := g) h hdg hn hkY hinitY
      (X.room_calling (g := g) (R' := (headSpec ws rm).room) hsize hmY hcY hframes (by rw [hlY]; omega) h4 h5) h1
  obtain ⟨mid, hmid⟩ := h.above
  have hfr : (U.setTop g).frames = (.java g :: mid) ++ below := by rw [State.frames_setTop' g h.top, hmid]; rfl
  obtain ⟨o, s₂, hsteps, -, hend, hq⟩ := Steps.callFree hM p X.admits X.cas X.clock (acts := []) hfr happ hPc trivial
  have hq' : vx_Q Qc XC mc ms free a (U.calling g mk a) o s₂ := hq
  rw [State.frames_setTop' g h.top] at hend
  obtain ⟨g₀, hg0⟩ := Option.isSome_iff_exists.mp h.top
  obtain ⟨r, hr⟩ := State.topJava?_eq_some.mp hg0
  have hr' : (({ U with heap := s₂.heap, slotsUsed := s₂.slotsUsed } : State).setVm s₂.vm).frames = .java g₀ :: r := hr
  rcases hq' with ⟨hqc, L, hfe, hL⟩ | ⟨q, rfl, E, ce, L, hx, hce, hcv, hcl, hW₂, hsm, hL⟩
  · obtain ⟨⟨v, rfl⟩, hW₂, e2, q2, q3, q4, q5, q6⟩ := id hfe
    have e3 : s₂ = ({ (U.calling g mk a).setFrames s₂.frames with heap := s₂.heap, slotsUsed := s₂.slotsUsed } : State).setVm s₂.vm := by
      have : s₂ = ({ s₂ with vm := (U.calling g mk a).vm } : State).setVm s₂.vm := rfl
      rw [e2] at this
      exact this
    obtain ⟨c₂, i₂, len₂, hc₂, hd₂, hf₂⟩ := hend
    have hW' : U.WarmedH s₂.vm := hW₂
    have hcc : c₂ = c := by
      have h1 : s₂.code? g.method = U.code? g.method := by
        rw [State.code?_eq, State.code?_eq, hW'.alike.method?]
      exact Option.some.inj (hc₂.symm.trans (h1.trans h.code))
    subst hcc
    have hlen : len₂ = len := by rw [hdg] at hd₂; cases hd₂; rfl
    subst hlen
    have hs₂ : s₂ = (({ U with heap := s₂.heap, slotsUsed := s₂.slotsUsed } : State).setVm s₂.vm).setTop { g with pc := g.pc + len₂, stack := v.toList ++ g.stack } := by
      refine e3.trans ?_
      rw [hf₂, State.calling_eq h.top, State.setFrames_setFrames, State.setTop_of_frames _ hr', hr]
      rfl
    have hsame : U.sameButNew ({ U with heap := s₂.heap, slotsUsed := s₂.slotsUsed } : State) L mc ms := by
      refine ⟨?_, q2, q3, q4, q5, q6⟩
      obtain ⟨t, ht, -⟩ := State.frames_cons hr
      show ({ U with heap := s₂.heap, slotsUsed := s₂.slotsUsed } : State) = { U.setFrames U.frames with heap := s₂.heap, slotsUsed := s₂.slotsUsed }
      rw [State.setFrames_self ht]
    subst hg
    refine Or.inl ⟨v, ⟨(({ U with heap := s₂.heap, slotsUsed := s₂.slotsUsed } : State).setVm s₂.vm), Ls ++ L, c0 + mc, s0 + ms⟩,
      ⟨X.admits, X.cas, X.clock, X.frames, X.room, X.hears, X.method, X.code, (X.here.setHeapUsed s₂.heap s₂.slotsUsed).setVm hW'.alike, X.tail, State.WarmedH.trans X.warmed hW', X.limits, X.bytes, X.same.trans (hsame.setVm s.vm)⟩,
      ⟨g, mk, s₂, L, rfl, rfl, hqc, rfl, hL, rfl, rfl⟩, ?_⟩
    show Steps p.tables e below _ ((({ U with heap := s₂.heap, slotsUsed := s₂.slotsUsed } : State).setVm s₂.vm).setTop { g with pc := g.pc + len₂, stack := v.toList ++ g.stack })
    rw [← hs₂]
    exact hsteps
  · obtain ⟨e2, q2, q3, q4, q5, q6⟩ := id hsm
    have e3 : s₂ = ({ (U.calling g mk a).setFrames s₂.frames with heap := s₂.heap, slotsUsed := s₂.slotsUsed } : State).setVm s₂.vm := by
      have : s₂ = ({ s₂ with vm := (U.calling g mk a).vm } : State).setVm s₂.vm := rfl
      rw [e2] at this
      exact this
    have hf₂ : s₂.frames = .throwing q :: .java g :: U.frames.tail := hend
    have hW' : U.WarmedH s₂.vm := hW₂
    have hs₂ : s₂ = ((({ U with heap := s₂.heap, slotsUsed := s₂.slotsUsed } : State).setVm s₂.vm).setTop g).pushFrame (.throwing q) := by
      refine e3.trans ?_
      rw [hf₂, State.calling_eq h.top, State.setFrames_setFrames, State.pushFrame, State.frames_setTop _ hr', State.setTop_of_frames _ hr', State.setFrames_setFrames, hr]
      rfl
    have hsame : U.sameButNew ({ U with heap := s₂.heap, slotsUsed := s₂.slotsUsed } : State) L mc ms := by
      refine ⟨?_, q2, q3, q4, q5, q6⟩
      obtain ⟨t, ht, -⟩ := State.frames_cons hr
      show ({ U with heap := s₂.heap, slotsUsed := s₂.slotsUsed } : State) = { U.setFrames U.frames with heap := s₂.heap, slotsUsed := s₂.slotsUsed }
      rw [State.setFrames_self ht]
    subst hg
    refine Or.inr ⟨q, ⟨(({ U with heap := s₂.heap, slotsUsed := s₂.slotsUsed } : State).setVm s₂.vm), Ls ++ L, c0 + mc, s0 + ms⟩,
      ⟨X.admits, X.cas, X.clock, X.frames, X.room, X.hears, X.method, X.code, (X.here.setHeapUsed s₂.heap s₂.slotsUsed).setVm hW'.alike, X.tail, State.WarmedH.trans X.warmed hW', X.limits, X.bytes, X.same.trans (hsame.setVm s.vm)⟩,
      ⟨g, mk, s₂, L, E, ce, rfl, rfl, hx, hce, hcv, hcl, rfl, hL, rfl, rfl⟩, ?_⟩
    show Steps p.tables e below _ (((({ U with heap := s₂.heap, slotsUsed := s₂.slotsUsed } : State).setVm s₂.vm).setTop g).pushFrame (.throwing q))
    rw [← hs₂]
    exact hsteps
end Payer
section Calls
variable {p : Program} {l : Launch} {e : Env} {R : Room} {s : State} {m : MethodId} {args : Array Value} {below : List Frame} {meth : Method} {c : Code} {T : State} {locs : List Loc} {cells slots : Nat}
theorem vx_callV (X : Stand p l e R s m args below meth c T locs cells slots) (hexec : p.tables.exec = Jvm.exec) {own C : String} {index : Nat} {y : MethodName} {bytes : ByteArray} {maxL : Nat} {ret : Option FieldType}
    (hown : s.vm.findClass own = some m.cls) (hlink : (Cond.methodLink own index y).before args s = true) (hinst : (Cond.instanceMethod y).before args s = true) (hsel : (Cond.selects C y y).before args s = true)
    (hcode : (Cond.code y bytes maxL ret).before args s = true) (hy : y.cls ≠ "java/lang/invoke/MethodHandle" ∧ y.cls ≠ "java/lang/invoke/VarHandle")
    {W9 : Nat} {Pre : Pt → Array Value → Prop} {Post : Pt → Array Value → Option Value → Pt → Prop} {PostX : Pt → Array Value → Addr → Pt → Prop} (hK : vx_Back l R p e below s args y 3 W9 Pre Post PostX)
    {b : Addr} {cellB : Cell} (hcell : T.heap[b]? = some cellB) (hobj : cellB.vm.isStatics = false) (hcls : s.vm.findClass C = some cellB.cls)
    {g : JFrame} (hg : g.method = m) (hsize : g.locals.size = c.maxLocals) {argsL rest : List Value} (hlen : ∀ sig, parseMethodDescriptor y.desc = some sig → argsL.length = sig.parameters.length)
    (hstack : g.stack = argsL.reverse ++ .ref b :: rest) (hW : 2 * g.monitorRoom + (rest.map fun v => v.category).sum ≤ W9) (hdg : decode c.code g.pc = .ok (.invokevirtual index, 3))
    (hpre : ∀ vm₁, s.WarmedH vm₁ → Pre ⟨T.setVm vm₁, locs, cells, slots⟩ (Value.ref b :: argsL).toArray) :
    (∃ (v : Option Value) (vm₁ : Vm) (B : Pt), s.WarmedH vm₁ ∧ Stand p l e R s m args below meth c B.U B.locs B.cells B.slots ∧ Post ⟨T.setVm vm₁, locs, cells, slots⟩ (Value.ref b :: argsL).toArray v B ∧
      ∀ target, Steps p.tables e below (B.U.setTop { g with pc := g.pc + 3, stack := v.toList ++ rest }) target → Steps p.tables e below (T.setTop g) target) ∨
    (∃ (q : Addr) (vm₁ : Vm) (B : Pt), s.WarmedH vm₁ ∧ Stand p l e R s m args below meth c B.U B.locs B.cells B.slots ∧ PostX ⟨T.setVm vm₁, locs, cells, slots⟩ (Value.ref b :: argsL).toArray q B ∧
      Steps p.tables e below (T.setTop g) ((B.U.setTop { g with stack := rest }).pushFrame (.throwing q))) := by
  obtain ⟨mk, methM, hnamed, hmethM, hstM, habM⟩ := Cond.instanceMethod_spec hinst
  obtain ⟨methM', cM, hmethM', -, -, -, -, -, -, hsigM⟩ := Cond.code_spec hnamed hcode
  cases hmethM.symm.trans hmethM'
  obtain ⟨c2, r2, m2, q1, q2, q3, q4, kP, hkP, hkPi⟩ := Cond.selects_spec hsel
  cases hcls.symm.trans q1
  cases (State.methodFound?_of_named hnamed hy).symm.trans q2
  cases hnamed.symm.trans q3
  have hselP : selectMethod e.platform s.vm cellB.cls mk = .method mk := by rw [Launch.admits_selectMethod X.admits]; exact q4
  obtain ⟨vm₁, X₁, hstep₁⟩ := X.invokevirtual hexec hown hlink hnamed hmethM hstM hkP hkPi hy (a := b) (cell := cellB) hcell
    (fun z h => by rw [h] at hobj; cases hobj) hselP hmethM habM hkP hkPi (g := g) hg (argsL := argsL) (rest := rest) (hlen _ hsigM) hstack hdg
  rcases hK m meth c ⟨T.setVm vm₁, locs, cells, slots⟩ { g with stack := rest } (.invokevirtual index) mk (Value.ref b :: argsL).toArray X₁ hg hsize hdg hW (X₁.named hnamed) (hpre vm₁ X₁.warmed) with ⟨v, B, X', hpost, hsteps⟩ | ⟨q, B, X', hpost, hsteps⟩
  · exact Or.inl ⟨v, vm₁, B, X₁.warmed, X', hpost, fun target h => hstep₁ _ fun acts => by rw [doInvoke_state]; exact hsteps.trans h⟩
  · exact Or.inr ⟨q, vm₁, B, X₁.warmed, X', hpost, hstep₁ _ fun acts => by rw [doInvoke_state]; exact hsteps⟩
theorem vx_callS (X : Stand p l e R s m args below meth c T locs cells slots) (hexec : p.tables.exec = Jvm.exec) {own : String} {index : Nat} {y : MethodName} {bytes : ByteArray} {maxL : Nat} {ret : Option FieldType}
    (hown : s.vm.findClass own = some m.cls) (hlink : (Cond.methodLink own index y).before args s = true) (hstat : (Cond.static y).before args s = true) (hinit : (Cond.initialized y.cls).before args s = true)
    (hcode : (Cond.code y bytes maxL ret).before args s = true) (hy : y.cls ≠ "java/lang/invoke/MethodHandle" ∧ y.cls ≠ "java/lang/invoke/VarHandle")
    {W9 : Nat} {Pre : Pt → Array Value → Prop} {Post : Pt → Array Value → Option Value → Pt → Prop} {PostX : Pt → Array Value → Addr → Pt → Prop} (hK : vx_Back l R p e below s args y 3 W9 Pre Post PostX)
    {g : JFrame} (hg : g.method = m) (hsize : g.locals.size = c.maxLocals) {argsL rest : List Value} (hlen : ∀ sig, parseMethodDescriptor y.desc = some sig → argsL.length = sig.parameters.length)
    (hstack : g.stack = argsL.reverse ++ rest) (hW : 2 * g.monitorRoom + (rest.map fun v => v.category).sum ≤ W9) (hdg : decode c.code g.pc = .ok (.invokestatic index, 3))
    (hpre : ∀ vm₁, s.WarmedH vm₁ → Pre ⟨T.setVm vm₁, locs, cells, slots⟩ argsL.toArray) :
    (∃ (v : Option Value) (vm₁ : Vm) (B : Pt), s.WarmedH vm₁ ∧ Stand p l e R s m args below meth c B.U B.locs B.cells B.slots ∧ Post ⟨T.setVm vm₁, locs, cells, slots⟩ argsL.toArray v B ∧
      ∀ target, Steps p.tables e below (B.U.setTop { g with pc := g.pc + 3, stack := v.toList ++ rest }) target → Steps p.tables e below (T.setTop g) target) ∨
    (∃ (q : Addr) (vm₁ : Vm) (B : Pt), s.WarmedH vm₁ ∧ Stand p l e R s m args below meth c B.U B.locs B.cells B.slots ∧ PostX ⟨T.setVm vm₁, locs, cells, slots⟩ argsL.toArray q B ∧
      Steps p.tables e below (T.setTop g) ((B.U.setTop { g with stack := rest }).pushFrame (.throwing q))) := by
  obtain ⟨mk, hnamed⟩ := Cond.code_named hcode
  obtain ⟨methM, cM, hmethM, -, -, -, -, -, -, hsigM⟩ := Cond.code_spec hnamed hcode
  have hstatic : methM.isStatic = true := Cond.static_spec hnamed hmethM hstat
  obtain ⟨kP, hkP, -⟩ := className_of_methodNamed hnamed
  have hinitP : kP.init = .initialized := Cond.initialized_spec (findClass_of_methodNamed hnamed) hkP hinit
  obtain ⟨vm₁, X₁, hstep₁⟩ := X.invokestatic hexec hown hlink hnamed hmethM hstatic hkP hinitP hy (g := g) hg (argsL := argsL) (rest := rest) (hlen _ hsigM) hstack hdg
  rcases hK m meth c ⟨T.setVm vm₁, locs, cells, slots⟩ { g with stack := rest } (.invokestatic index) mk argsL.toArray X₁ hg hsize hdg hW (X₁.named hnamed) (hpre vm₁ X₁.warmed) with ⟨v, B, X', hpost, hsteps⟩ | ⟨q, B, X', hpost, hsteps⟩
  · exact Or.inl ⟨v, vm₁, B, X₁.warmed, X', hpost, fun target h => hstep₁ _ fun acts => by rw [doInvoke_state]; exact hsteps.trans h⟩
  · exact Or.inr ⟨q, vm₁, B, X₁.warmed, X', hpost, hstep₁ _ fun acts => by rw [doInvoke_state]; exact hsteps⟩
end Calls
theorem vx_cls {s : State} {T : State} {vm₁ : Vm} {E : String} {k : ClassId} (hW : s.WarmedH vm₁) (h : (T.setVm vm₁).vm.findClass E = some k) : s.vm.findClass E = some k := by
  have h1 : vm₁.findClass E = some k := h
  rw [hW.alike.findClass] at h1
  exact h1
/-- the method's frame g, with q thrown over it -/
def vx_W (p : Program) (l : Launch) (e : Env) (R : Room) (s : State) (m : MethodId) (args : Array Value) (below : List Frame) (meth : Method) (c : Code) (H : Heap) (locs : List Loc) (cells slots : Nat) (Q : State → Prop) (g : JFrame) (q : Addr) : Prop :=
  ∀ T : State, T.heap = H → Stand p l e R s m args below meth c T locs cells slots → ∃ t, Steps p.tables e below ((T.setTop g).pushFrame (.throwing q)) t ∧ Q t
def vx_Run (p : Program) (l : Launch) (e : Env) (R : Room) (s : State) (m : MethodId) (args : Array Value) (below : List Frame) (meth : Method) (c : Code) (H : Heap) (locs : List Loc) (cells slots mc ms : Nat) (g : JFrame) (rest : List Value) (Qa : State → Outcome → State → Prop) (XC : String → State → State → Prop) (free : Addr → Prop) : Prop :=
  ∀ T : State, T.heap = H → Stand p l e R s m args below meth c T locs cells slots →
    (∃ (v : Option Value) (st₀ t T' : State) (L : List Loc), st₀.heap = H ∧ Stand p l e R s m args below meth c T' (locs ++ L) (cells + mc) (slots + ms) ∧ (∀ q ∈ L, free q.base) ∧ T'.heap = t.heap ∧ T'.vm = t.vm ∧ Qa st₀ (.returned v) t ∧
      Goes p e below T g T' { g with pc := g.pc + 3, stack := v.toList ++ rest }) ∨
    (∃ (q : Addr) (st₀ t T' : State) (L : List Loc) (E : String) (ce : Cell), st₀.heap = H ∧ Stand p l e R s m args below meth c T' (locs ++ L) (cells + mc) (slots + ms) ∧ (∀ z ∈ L, free z.base) ∧ T'.heap = t.heap ∧ T'.vm = t.vm ∧ XC E st₀ t ∧ t.heap[q]? = some ce ∧ ce.vm = .none ∧ s.vm.findClass E = some ce.cls ∧
      Steps p.tables e below (T.setTop g) ((T'.setTop { g with stack := rest }).pushFrame (.throwing q)))
def vx_X {S : Type} (px : S → Prop) (B : String → S → State → Prop) (A : Nat → Prop) : String → State → State → Prop := fun E st t => ∃ u : S, px u ∧ B E u t ∧ va_F A st t
section Runs
variable {p : Program} {l : Launch} {e : Env} {R : Room} {s : State} {m : MethodId} {args : Array Value} {below : List Frame} {meth : Method} {c : Code} {H : Heap} {locs : List Loc} {cells slots : Nat}
variable {y : MethodName} {bytes cc : ByteArray} {maxL nL mc ms n index : Nat} {ret : Option FieldType} {ws : List Cond} {rm : Room} {Pc : Array Value → State → Prop} {Qc : Array Value → State → Outcome → State → Prop} {XC : String → State → State → Prop} {free : Addr → Prop} {Ts : List Cond} {own C : String} {b : Addr} {As rest : List Value} {g : JFrame}
theorem vx_callBack (cb : CallB R s args own index y bytes maxL ret ws rm mc ms n) (hM : vx_Met l y ws rm Pc Qc XC mc ms free) (hbl : FrameBlind Pc) : vx_Back l R p e below s args y 3 8 (PreOf R mc ms Pc) (PostOf Qc mc ms free) (vx_Post XC mc ms free) := by
  obtain ⟨hrc, hrs, hfr, hlo, hws, hcw, -, hini, -⟩ := cb
  exact vx_back (bytes := bytes) (maxL := maxL) (ret := ret) hM hbl hrc hrs hfr hlo hws hcw (fun a' U hW => word_at hW (Or.inl (by first | rfl | simp [Cond.onTables, Cond.keeps, Cond.steady])) hini)
theorem vx_runV (S : CallFix p m c cc nL s args Ts own) (hM : vx_Met l y ws rm Pc Qc XC mc ms free) (cw : CallW R s args own C index y bytes maxL ret ws rm mc ms n) (hp : PreV s H C b Pc As)
    (hg : g.method = m) (hn : As.length = n) (hsize : g.locals.size = nL) (hstack : g.stack = As.reverse ++ .ref b :: rest) (hW : 2 * g.monitorRoom + (rest.map fun v => v.category).sum ≤ 8) (hdg : decode cc g.pc = .ok (.invokevirtual index, 3)) (hf : cells + mc ≤ R.cells ∧ slots + ms ≤ R.slots) :
    vx_Run p l e R s m args below meth c H locs cells slots mc ms g rest (Qc (Value.ref b :: As).toArray) XC free := by
  have hK : vx_Back l R p e below s args y 3 8 (PreOf R mc ms Pc) (PostOf Qc mc ms free) (vx_Post XC mc ms free) := vx_callBack cw.1 hM hp.1
  obtain ⟨⟨-, -, -, -, -, -, hcode, -, hy, hlen, hl⟩, hin, hse⟩ := cw
  obtain ⟨hx, hb, hml, ho, -⟩ := S
  obtain ⟨-, ⟨cellB, hcB, hoB, hclB⟩, hPc⟩ := hp
  intro T hT X
  rcases vx_callV X hx (C := C) (bytes := bytes) (maxL := maxL) (ret := ret) ho hl hin hse hcode hy hK (by rw [hT]; exact hcB) hoB hclB hg (hsize.trans hml.symm) (argsL := As) (rest := rest) (fun sig h => hn.trans (hlen sig h)) hstack hW (by rw [hb]; exact hdg)
    (fun vm₁ hW₁ => ⟨hf.1, hf.2, hPc (T.setVm vm₁) hT hW₁⟩) with ⟨v, vm₁, ⟨U', l2, c2, s2⟩, hW₁, X', ⟨g', mk, t, L, e1, e2, hq, h1, hL, h2, h3⟩, st⟩ | ⟨q, vm₁, ⟨U', l2, c2, s2⟩, hW₁, X', ⟨g', mk, t, L, E, ce, e1, e2, hq, hce, hcv, hcl, h1, hL, h2, h3⟩, st⟩
  · dsimp only [Pt.U, Pt.locs, Pt.cells, Pt.slots] at X' e1 e2 h1 h2 h3 st
    subst h1; subst h2; subst h3
    exact Or.inl ⟨v, (T.setVm vm₁).calling g' mk (Value.ref b :: As).toArray, t, U', L, hT, X', hL, e1, e2, hq, st⟩
  · dsimp only [Pt.U, Pt.locs, Pt.cells, Pt.slots] at X' e1 e2 h1 h2 h3 st hcl
    subst h1; subst h2; subst h3
    exact Or.inr ⟨q, (T.setVm vm₁).calling g' mk (Value.ref b :: As).toArray, t, U', L, E, ce, hT, X', hL, e1, e2, hq, hce, hcv, vx_cls hW₁ hcl, st⟩
theorem vx_runS (S : CallFix p m c cc nL s args Ts own) (hM : vx_Met l y ws rm Pc Qc XC mc ms free) (cw : CallB R s args own index y bytes maxL ret ws rm mc ms n ∧ (Cond.static y).before args s = true) (hp : PreS s H Pc As)
    (hg : g.method = m) (hn : As.length = n) (hsize : g.locals.size = nL) (hstack : g.stack = As.reverse ++ rest) (hW : 2 * g.monitorRoom + (rest.map fun v => v.category).sum ≤ 8) (hdg : decode cc g.pc = .ok (.invokestatic index, 3)) (hf : cells + mc ≤ R.cells ∧ slots + ms ≤ R.slots) :
    vx_Run p l e R s m args below meth c H locs cells slots mc ms g rest (Qc As.toArray) XC free := by
  have hK : vx_Back l R p e below s args y 3 8 (PreOf R mc ms Pc) (PostOf Qc mc ms free) (vx_Post XC mc ms free) := vx_callBack cw.1 hM hp.1
  obtain ⟨⟨-, -, -, -, -, -, hcode, hini, hy, hlen, hl⟩, hstt⟩ := cw
  obtain ⟨hx, hb, hml, ho, -⟩ := S
  intro T hT X
  rcases vx_callS X hx (bytes := bytes) (maxL := maxL) (ret := ret) ho hl hstt hini hcode hy hK hg (hsize.trans hml.symm) (argsL := As) (rest := rest) (fun sig h => hn.trans (hlen sig h)) hstack hW (by rw [hb]; exact hdg)
    (fun vm₁ hW₁ => ⟨hf.1, hf.2, hp.2 (T.setVm vm₁) hT hW₁⟩) with ⟨v, vm₁, ⟨U', l2, c2, s2⟩, hW₁, X', ⟨g', mk, t, L, e1, e2, hq, h1, hL, h2, h3⟩, st⟩ | ⟨q, vm₁, ⟨U', l2, c2, s2⟩, hW₁, X', ⟨g', mk, t, L, E, ce, e1, e2, hq, hce, hcv, hcl, h1, hL, h2, h3⟩, st⟩
  · dsimp only [Pt.U, Pt.locs, Pt.cells, Pt.slots] at X' e1 e2 h1 h2 h3 st
    subst h1; subst h2; subst h3
    exact Or.inl ⟨v, (T.setVm vm₁).calling g' mk As.toArray, t, U', L, hT, X', hL, e1, e2, hq, st⟩
  · dsimp only [Pt.U, Pt.locs, Pt.cells, Pt.slots] at X' e1 e2 h1 h2 h3 st hcl
    subst h1; subst h2; subst h3
    exact Or.inr ⟨q, (T.setVm vm₁).calling g' mk As.toArray, t, U', L, E, ce, hT, X', hL, e1, e2, hq, hce, hcv, vx_cls hW₁ hcl, st⟩
end Runs
section Rows
variable {p : Program} {l : Launch} {e : Env} {R : Room} {s : State} {m : MethodId} {args : Array Value} {below : List Frame} {meth : Method} {c : Code} {H : Heap} {locs : List Loc} {cells slots : Nat} {Q : State → Prop}
variable {mc ms : Nat} {free : Addr → Prop} {A0 A1 : Nat → Prop} {H0 : Heap} {a : Array Value} {pc : Nat} {ls : Array Slot} {st0 rest : List Value}
theorem vx_keep {st₀ t T' : State} {L : List Loc} (h0 : st₀.heap = H) (e1 : T'.heap = t.heap) (hS : va_S A0 H0 H locs) (hA : ∀ q, q < H.size → A1 q → A0 q) (hf : ∀ q, free q → A0 q) (hL : ∀ q ∈ L, free q.base) (hF : va_F A1 st₀ t) :
    H.size ≤ T'.heap.size ∧ (∀ q : Nat, q < H.size → ¬ A1 q → T'.heap[q]? = H[q]?) ∧ va_S A0 H0 T'.heap (locs ++ L) := by
  obtain ⟨hz, hk⟩ := hF
  rw [h0] at hz hk
  exact ⟨by rw [e1]; exact hz, fun q h1 h2 => by rw [e1]; exact hk q h1 h2,
    ⟨Nat.le_trans hS.1 (by rw [e1]; exact hz), fun q h1 h2 => by rw [e1, hk q (Nat.lt_of_lt_of_le h1 hS.1) (fun z => h2 (hA q (Nat.lt_of_lt_of_le h1 hS.1) z))]; exact hS.2.1 q h1 h2, fun q hq => by
      rcases List.mem_append.mp hq with h | h
      · exact hS.2.2 q h
      · exact hf _ (hL q h)⟩⟩
theorem vx_calli {S SX : Type} {post : Int32 → S → Prop} {px : SX → Prop} {B : S → State → Prop} {BX : String → SX → State → Prop} {AX : Nat → Prop} (hr : vx_Run p l e R s m args below meth c H locs cells slots mc ms (F0 m pc ls st0) rest (va_Qi post B A1 a) (vx_X px BX AX) free) (hS : va_S A0 H0 H locs) (hA : ∀ q, q < H.size → A1 q → A0 q) (hf : ∀ q, free q → A0 q) (hAX : ∀ q, q < H.size → AX q → A0 q)
    (kx : ∀ (E : String) (ce : Cell) (q9 : Addr) (u : SX) (t : State) (H1 : Heap) (locs1 : List Loc), t.heap = H1 → s.vm.Alike t.vm → px u → BX E u t → H.size ≤ H1.size → (∀ q : Nat, q < H.size → ¬ AX q → H1[q]? = H[q]?) → va_S A0 H0 H1 locs1 → H1[q9]? = some ce → ce.vm = .none → s.vm.findClass E = some ce.cls → vx_W p l e R s m args below meth c H1 locs1 (cells + mc) (slots + ms) Q (F0 m pc ls rest) q9)
    (kk : ∀ (r : Int32) (u : S) (t : State) (H1 : Heap) (locs1 : List Loc), t.heap = H1 → s.vm.Alike t.vm → post r u → B u t → H.size ≤ H1.size → (∀ q : Nat, q < H.size → ¬ A1 q → H1[q]? = H[q]?) → va_S A0 H0 H1 locs1 → W p l e R s m args below meth c H1 locs1 (cells + mc) (slots + ms) Q (F0 m (pc + 3) ls (.int r :: rest))) : W p l e R s m args below meth c H locs cells slots Q (F0 m pc ls st0) := by
  intro T hT X
  rcases hr T hT X with ⟨v, st₀, t, T', L, h0, X', hL, e1, e2, ⟨⟨r, u, hv, hp, hb⟩, hF⟩, st⟩ | ⟨q, st₀, t, T', L, E, ce, h0, X', hL, e1, e2, ⟨u, hp, hb, hF⟩, hce, hcv, hcl, st⟩
  · cases hv
    obtain ⟨k1, k2, k3⟩ := vx_keep h0 e1 hS hA hf hL hF
    obtain ⟨t2, a1, b1⟩ := kk r u t T'.heap (locs ++ L) e1.symm (by rw [← e2]; exact X'.warmed.alike) hp hb k1 k2 k3 T' rfl X'
    exact ⟨t2, st t2 a1, b1⟩
  · obtain ⟨k1, k2, k3⟩ := vx_keep h0 e1 hS hAX hf hL hF
    obtain ⟨t2, a1, b1⟩ := kx E ce q u t T'.heap (locs ++ L) e1.symm (by rw [← e2]; exact X'.warmed.alike) hp hb k1 k2 k3 (by rw [e1]; exact hce) hcv hcl T' rfl X'
    exact ⟨t2, st.trans a1, b1⟩
theorem vx_calll {S SX : Type} {post : Int64 → S → Prop} {px : SX → Prop} {B : S → State → Prop} {BX : String → SX → State → Prop} {AX : Nat → Prop} (hr : vx_Run p l e R s m args below meth c H locs cells slots mc ms (F0 m pc ls st0) rest (va_Ql post B A1 a) (vx_X px BX AX) free) (hS : va_S A0 H0 H locs) (hA : ∀ q, q < H.size → A1 q → A0 q) (hf : ∀ q, free q → A0 q) (hAX : ∀ q, q < H.size → AX q → A0 q)
    (kx : ∀ (E : String) (ce : Cell) (q9 : Addr) (u : SX) (t : State) (H1 : Heap) (locs1 : List Loc), t.heap = H1 → s.vm.Alike t.vm → px u → BX E u t → H.size ≤ H1.size → (∀ q : Nat, q < H.size → ¬ AX q → H1[q]? = H[q]?) → va_S A0 H0 H1 locs1 → H1[q9]? = some ce → ce.vm = .none → s.vm.findClass E = some ce.cls → vx_W p l e R s m args below meth c H1 locs1 (cells + mc) (slots + ms) Q (F0 m pc ls rest) q9)
    (kk : ∀ (r : Int64) (u : S) (t : State) (H1 : Heap) (locs1 : List Loc), t.heap = H1 → s.vm.Alike t.vm → post r u → B u t → H.size ≤ H1.size → (∀ q : Nat, q < H.size → ¬ A1 q → H1[q]? = H[q]?) → va_S A0 H0 H1 locs1 → W p l e R s m args below meth c H1 locs1 (cells + mc) (slots + ms) Q (F0 m (pc + 3) ls (.long r :: rest))) : W p l e R s m args below meth c H locs cells slots Q (F0 m pc ls st0) := by
  intro T hT X
  rcases hr T hT X with ⟨v, st₀, t, T', L, h0, X', hL, e1, e2, ⟨⟨r, u, hv, hp, hb⟩, hF⟩, st⟩ | ⟨q, st₀, t, T', L, E, ce, h0, X', hL, e1, e2, ⟨u, hp, hb, hF⟩, hce, hcv, hcl, st⟩
  · cases hv
    obtain ⟨k1, k2, k3⟩ := vx_keep h0 e1 hS hA hf hL hF
    obtain ⟨t2, a1, b1⟩ := kk r u t T'.heap (locs ++ L) e1.symm (by rw [← e2]; exact X'.warmed.alike) hp hb k1 k2 k3 T' rfl X'
    exact ⟨t2, st t2 a1, b1⟩
  · obtain ⟨k1, k2, k3⟩ := vx_keep h0 e1 hS hAX hf hL hF
    obtain ⟨t2, a1, b1⟩ := kx E ce q u t T'.heap (locs ++ L) e1.symm (by rw [← e2]; exact X'.warmed.alike) hp hb k1 k2 k3 (by rw [e1]; exact hce) hcv hcl T' rfl X'
    exact ⟨t2, st.trans a1, b1⟩
theorem vx_callf {S SX : Type} {post : UInt32 → S → Prop} {px : SX → Prop} {B : S → State → Prop} {BX : String → SX → State → Prop} {AX : Nat → Prop} (hr : vx_Run p l e R s m args below meth c H locs cells slots mc ms (F0 m pc ls st0) rest (va_Qf post B A1 a) (vx_X px BX AX) free) (hS : va_S A0 H0 H locs) (hA : ∀ q, q < H.size → A1 q → A0 q) (hf : ∀ q, free q → A0 q) (hAX : ∀ q, q < H.size → AX q → A0 q)
    (kx : ∀ (E : String) (ce : Cell) (q9 : Addr) (u : SX) (t : State) (H1 : Heap) (locs1 : List Loc), t.heap = H1 → s.vm.Alike t.vm → px u → BX E u t → H.size ≤ H1.size → (∀ q : Nat, q < H.size → ¬ AX q → H1[q]? = H[q]?) → va_S A0 H0 H1 locs1 → H1[q9]? = some ce → ce.vm = .none → s.vm.findClass E = some ce.cls → vx_W p l e R s m args below meth c H1 locs1 (cells + mc) (slots + ms) Q (F0 m pc ls rest) q9)
    (kk : ∀ (r : UInt32) (u : S) (t : State) (H1 : Heap) (locs1 : List Loc), t.heap = H1 → s.vm.Alike t.vm → post r u → B u t → H.size ≤ H1.size → (∀ q : Nat, q < H.size → ¬ A1 q → H1[q]? = H[q]?) → va_S A0 H0 H1 locs1 → W p l e R s m args below meth c H1 locs1 (cells + mc) (slots + ms) Q (F0 m (pc + 3) ls (.float r :: rest))) : W p l e R s m args below meth c H locs cells slots Q (F0 m pc ls st0) := by
  intro T hT X
  rcases hr T hT X with ⟨v, st₀, t, T', L, h0, X', hL, e1, e2, ⟨⟨r, u, hv, hp, hb⟩, hF⟩, st⟩ | ⟨q, st₀, t, T', L, E, ce, h0, X', hL, e1, e2, ⟨u, hp, hb, hF⟩, hce, hcv, hcl, st⟩
  · cases hv
    obtain ⟨k1, k2, k3⟩ := vx_keep h0 e1 hS hA hf hL hF
    obtain ⟨t2, a1, b1⟩ := kk r u t T'.heap (locs ++ L) e1.symm (by rw [← e2]; exact X'.warmed.alike) hp hb k1 k2 k3 T' rfl X'
    exact ⟨t2, st t2 a1, b1⟩
  · obtain ⟨k1, k2, k3⟩ := vx_keep h0 e1 hS hAX hf hL hF
    obtain ⟨t2, a1, b1⟩ := kx E ce q u t T'.heap (locs ++ L) e1.symm (by rw [← e2]; exact X'.warmed.alike) hp hb k1 k2 k3 (by rw [e1]; exact hce) hcv hcl T' rfl X'
    exact ⟨t2, st.trans a1, b1⟩
theorem vx_calld {S SX : Type} {post : UInt64 → S → Prop} {px : SX → Prop} {B : S → State → Prop} {BX : String → SX → State → Prop} {AX : Nat → Prop} (hr : vx_Run p l e R s m args below meth c H locs cells slots mc ms (F0 m pc ls st0) rest (va_Qd post B A1 a) (vx_X px BX AX) free) (hS : va_S A0 H0 H locs) (hA : ∀ q, q < H.size → A1 q → A0 q) (hf : ∀ q, free q → A0 q) (hAX : ∀ q, q < H.size → AX q → A0 q)
    (kx : ∀ (E : String) (ce : Cell) (q9 : Addr) (u : SX) (t : State) (H1 : Heap) (locs1 : List Loc), t.heap = H1 → s.vm.Alike t.vm → px u → BX E u t → H.size ≤ H1.size → (∀ q : Nat, q < H.size → ¬ AX q → H1[q]? = H[q]?) → va_S A0 H0 H1 locs1 → H1[q9]? = some ce → ce.vm = .none → s.vm.findClass E = some ce.cls → vx_W p l e R s m args below meth c H1 locs1 (cells + mc) (slots + ms) Q (F0 m pc ls rest) q9)
    (kk : ∀ (r : UInt64) (u : S) (t : State) (H1 : Heap) (locs1 : List Loc), t.heap = H1 → s.vm.Alike t.vm → post r u → B u t → H.size ≤ H1.size → (∀ q : Nat, q < H.size → ¬ A1 q → H1[q]? = H[q]?) → va_S A0 H0 H1 locs1 → W p l e R s m args below meth c H1 locs1 (cells + mc) (slots + ms) Q (F0 m (pc + 3) ls (.double r :: rest))) : W p l e R s m args below meth c H locs cells slots Q (F0 m pc ls st0) := by
  intro T hT X
  rcases hr T hT X with ⟨v, st₀, t, T', L, h0, X', hL, e1, e2, ⟨⟨r, u, hv, hp, hb⟩, hF⟩, st⟩ | ⟨q, st₀, t, T', L, E, ce, h0, X', hL, e1, e2, ⟨u, hp, hb, hF⟩, hce, hcv, hcl, st⟩
  · cases hv
    obtain ⟨k1, k2, k3⟩ := vx_keep h0 e1 hS hA hf hL hF
    obtain ⟨t2, a1, b1⟩ := kk r u t T'.heap (locs ++ L) e1.symm (by rw [← e2]; exact X'.warmed.alike) hp hb k1 k2 k3 T' rfl X'
    exact ⟨t2, st t2 a1, b1⟩
  · obtain ⟨k1, k2, k3⟩ := vx_keep h0 e1 hS hAX hf hL hF
    obtain ⟨t2, a1, b1⟩ := kx E ce q u t T'.heap (locs ++ L) e1.symm (by rw [← e2]; exact X'.warmed.alike) hp hb k1 k2 k3 (by rw [e1]; exact hce) hcv hcl T' rfl X'
    exact ⟨t2, st.trans a1, b1⟩
theorem vx_callv {S SX : Type} {post : S → Prop} {px : SX → Prop} {B : S → State → Prop} {BX : String → SX → State → Prop} {AX : Nat → Prop} (hr : vx_Run p l e R s m args below meth c H locs cells slots mc ms (F0 m pc ls st0) rest (va_Qv post B A1 a) (vx_X px BX AX) free) (hS : va_S A0 H0 H locs) (hA : ∀ q, q < H.size → A1 q → A0 q) (hf : ∀ q, free q → A0 q) (hAX : ∀ q, q < H.size → AX q → A0 q)
    (kx : ∀ (E : String) (ce : Cell) (q9 : Addr) (u : SX) (t : State) (H1 : Heap) (locs1 : List Loc), t.heap = H1 → s.vm.Alike t.vm → px u → BX E u t → H.size ≤ H1.size → (∀ q : Nat, q < H.size → ¬ AX q → H1[q]? = H[q]?) → va_S A0 H0 H1 locs1 → H1[q9]? = some ce → ce.vm = .none → s.vm.findClass E = some ce.cls → vx_W p l e R s m args below meth c H1 locs1 (cells + mc) (slots + ms) Q (F0 m pc ls rest) q9)
    (kk : ∀ (u : S) (t : State) (H1 : Heap) (locs1 : List Loc), t.heap = H1 → s.vm.Alike t.vm → post u → B u t → H.size ≤ H1.size → (∀ q : Nat, q < H.size → ¬ A1 q → H1[q]? = H[q]?) → va_S A0 H0 H1 locs1 → W p l e R s m args below meth c H1 locs1 (cells + mc) (slots + ms) Q (F0 m (pc + 3) ls (rest))) : W p l e R s m args below meth c H locs cells slots Q (F0 m pc ls st0) := by
  intro T hT X
  rcases hr T hT X with ⟨v, st₀, t, T', L, h0, X', hL, e1, e2, ⟨⟨u, hv, hp, hb⟩, hF⟩, st⟩ | ⟨q, st₀, t, T', L, E, ce, h0, X', hL, e1, e2, ⟨u, hp, hb, hF⟩, hce, hcv, hcl, st⟩
  · cases hv
    obtain ⟨k1, k2, k3⟩ := vx_keep h0 e1 hS hA hf hL hF
    obtain ⟨t2, a1, b1⟩ := kk u t T'.heap (locs ++ L) e1.symm (by rw [← e2]; exact X'.warmed.alike) hp hb k1 k2 k3 T' rfl X'
    exact ⟨t2, st t2 a1, b1⟩
  · obtain ⟨k1, k2, k3⟩ := vx_keep h0 e1 hS hAX hf hL hF
    obtain ⟨t2, a1, b1⟩ := kx E ce q u t T'.heap (locs ++ L) e1.symm (by rw [← e2]; exact X'.warmed.alike) hp hb k1 k2 k3 (by rw [e1]; exact hce) hcv hcl T' rfl X'
    exact ⟨t2, st.trans a1, b1⟩
/-- caught by the row x of this method's table; the rows ahead don't take it -/
theorem vx_catch {own name : String} {E : String} {ce : Cell} {q : Addr} (hown : s.vm.findClass own = some m.cls) (pre : List ExceptionTableEntry) (x : ExceptionTableEntry) (suf : List ExceptionTableEntry) (hsplit : c.exceptionTable.toList = pre ++ x :: suf)
    (hpass : ∀ z ∈ pre, covers z pc = false ∨ (z.catchType ≠ 0 ∧ ∃ nm : String, (Cond.classLink own z.catchType nm).before args s = true ∧ va_Nc E nm s)) (hx : covers x pc = true) (h0 : x.catchType ≠ 0)
    (hlink : (Cond.classLink own x.catchType name).before args s = true) (hcast : (Cond.castable E name).before args s = true) (hcell : H[q]? = some ce) (hv : ce.vm = .none) (hcl : s.vm.findClass E = some ce.cls)
    (kk : W p l e R s m args below meth c H locs cells slots Q (F0 m x.handlerPc ls [.ref q])) : vx_W p l e R s m args below meth c H locs cells slots Q (F0 m pc ls rest) q := by
  intro T hT X
  have hpl : e.platform.magicAccessors = ({} : Platform).magicAccessors := by rw [X.admits.platform]
  obtain ⟨c3, c4, hc3, hc4, hasg⟩ := Cond.castable_spec hcast
  cases Option.some.inj (hc3.symm.trans hcl)
  obtain ⟨c5, hc5, hcl5⟩ := Cond.classLink_spec hown hlink e.platform hpl
  cases Option.some.inj (hc4.symm.trans hc5)
  obtain ⟨vm', X', st⟩ := X.thenCaughtThrough q (g := F0 m pc ls rest) rfl (Steps.refl _) (by rw [hT]; exact hcell) (by rw [hv]; rfl) (by obtain ⟨k9, h9, -⟩ := Vm.findClass_spec hcl; exact ⟨k9, h9⟩) pre x suf hsplit
    (fun z hz => by
      rcases hpass z hz with h | ⟨hz0, nm, hl1, hn1⟩
      · exact Or.inl h
      · obtain ⟨c6, hc6, hcl6⟩ := Cond.classLink_spec hown hl1 e.platform hpl
        obtain ⟨a8, b8, h1, h2, h3⟩ := hn1
        cases Option.some.inj (h1.symm.trans hcl)
        cases Option.some.inj (h2.symm.trans hc6)
        exact Or.inr ⟨hz0, _, hcl6, h3⟩) hx (Or.inr ⟨h0, c4, hcl5, hasg⟩)
  obtain ⟨t, a1, b1⟩ := kk (T.setVm vm') hT X'
  exact ⟨t, st.trans a1, b1⟩
end Rows
section Ends
variable {p : Program} {l : Launch} {e : Env} {R : Room} {s : State} {m : MethodId} {args : Array Value} {below : List Frame} {meth : Method} {c : Code} {H : Heap} {locs : List Loc} {cells slots : Nat} {Q : State → Prop}
variable {mc ms : Nat} {free : Addr → Prop} {A0 A1 : Nat → Prop} {H0 : Heap} {a : Array Value} {ls : Array Slot} {st0 rest : List Value}
variable {Qc : Array Value → State → Outcome → State → Prop} {XC : String → State → State → Prop}
/-- what a body that may throw owes at its end -/
def vx_MQ (below : List Frame) (Qc : Array Value → State → Outcome → State → Prop) (XC : String → State → State → Prop) (a : Array Value) (s : State) (mc ms : Nat) (free : Addr → Prop) : State → Prop := fun t =>
  ∃ o, t.status = .running ∧ Ended t below o ∧ vx_Q Qc XC mc ms free a s o t
theorem vx_ret {g : JFrame} {mc ms : Nat} (k : W p l e R s m args below meth c H locs cells slots (MQ below Qc args s mc ms free) g) : W p l e R s m args below meth c H locs cells slots (vx_MQ below Qc XC args s mc ms free) g := by
  intro T hT X
  obtain ⟨t, a1, o, b1, b2, b3, b4⟩ := k T hT X
  exact ⟨t, a1, o, b1, b2, Or.inl ⟨b3, b4⟩⟩
/-- not caught here: it goes on to the caller -/
theorem vx_widen {g : JFrame} {q : Addr} {k n : Nat} (h1 : cells ≤ k) (h2 : slots ≤ n) (kk : vx_W p l e R s m args below meth c H locs k n Q g q) : vx_W p l e R s m args below meth c H locs cells slots Q g q := fun T hT X => kk T hT (stand_widen X h1 h2)
theorem vx_out {pc : Nat} {E : String} {ce : Cell} {q : Addr} {mc ms : Nat} (hout : ∀ x ∈ c.exceptionTable.toList, covers x pc = false) (hlocks : meth.locks = false) (hcell : H[q]? = some ce) (hv : ce.vm = .none) (hcl : s.vm.findClass E = some ce.cls)
    (hx : ∀ t : State, t.heap = H → s.vm.Alike t.vm → XC E s t) (hf : ∀ z ∈ locs, free z.base) (hc : cells ≤ mc) (hs : slots ≤ ms) :
    vx_W p l e R s m args below meth c H locs cells slots (vx_MQ below Qc XC args s mc ms free) (F0 m pc ls rest) q := by
  intro T hT X
  obtain ⟨st1, hrun, hend, hW, hsm⟩ := X.leaveThrown q (g := F0 m pc ls rest) rfl rfl rfl hout hlocks
  have hcell9 : (T.setFrames (.throwing q :: below)).heap[q]? = some ce := by
    show T.heap[q]? = some ce
    rw [hT]; exact hcell
  exact ⟨_, st1, .threw q, hrun, hend, Or.inr ⟨q, rfl, E, ce, locs, hx _ hT hW.alike, hcell9, hv, hcl, hW, hsm.mono hc hs, hf⟩⟩
theorem vx_frame {U : State} {k n : Nat} (h : s.sameButNew ({ U with vm := s.vm } : State) locs k n) : s.heap.size ≤ U.heap.size ∧ ∀ q : Nat, q < s.heap.size → (∀ z ∈ locs, z.base ≠ q) → U.heap[q]? = s.heap[q]? := by
  obtain ⟨-, h2, -, -, -, h6⟩ := h
  refine ⟨h2, fun q hq hz => ?_⟩
  obtain ⟨c9, e1, e2, e3, e4⟩ := h6 q _ (Array.getElem?_eq_getElem hq)
  have hs : c9.slots = (s.heap[q]).slots := Array.ext_getElem? fun i => e4 i fun hm => hz _ hm rfl
  have h9 : c9 = s.heap[q] := by
    rw [hs] at e2
    exact e2
  have e5 : U.heap[q]? = some c9 := e1
  rw [e5, h9, Array.getElem?_eq_getElem hq]
/-- the words of a throw but the four that speak of the heap -/
def vx_no (w : Cond) : Bool := decide (w ≠ .isRef (.static Bundle.tN "UNASSIGNED_STACK" Bundle.steD)) && decide (w ≠ .isRef (.static Bundle.tN "SUPPRESSED_SENTINEL" Bundle.listD)) && decide (w ≠ .laysStatic Bundle.tN "UNASSIGNED_STACK" Bundle.steD) && decide (w ≠ .laysStatic Bundle.tN "SUPPRESSED_SENTINEL" Bundle.listD)
def vx_at0 (own : String) (ic : Nat) (X : String) (names : List String) : List Cond := (Bundle.ownAtoms0 own ic X names).filter vx_no
def vx_atS (own : String) (ic : Nat) (X : String) (names : List String) : List Cond := (Bundle.ownAtoms own ic X names).filter vx_no
/-- a word that the tables alone decide, or a good one -/
def vx_ot (w : Cond) : Bool := w.onTables || goodWord w
theorem vx_ot_at {args a' : Array Value} {s U : State} {w : Cond} (hW : s.WarmedH U.vm) (hvm : s.vm = U.vm) (hg : vx_ot w = true) (h : w.before args s = true) : w.before a' U = true := by
  simp only [vx_ot, Bool.or_eq_true] at hg
  rcases hg with hg | hg
  · exact va_tabs hg hvm h
  · exact word_at hW (good_of_word hg) h
/-- a list's words: the good ones out of the method's own list, the others by premises of their own -/
theorem vx_hat {args : Array Value} {s : State} {L B : List Cond} (h1 : ∀ w ∈ L.filter goodWord, w.before args s = true) (h2 : ∀ w ∈ L.filter (fun w => !goodWord w), w ∈ B) (h3 : ∀ w ∈ B, w.before args s = true) : ∀ w ∈ L, w.before args s = true := by
  intro w hw
  by_cases g : goodWord w = true
  · exact h1 w (List.mem_filter.mpr ⟨hw, g⟩)
  · refine h3 w (h2 w (List.mem_filter.mpr ⟨hw, ?_⟩))
    show (!goodWord w) = true
    cases hgw : goodWord w
    · rfl
    · exact absurd hgw g
theorem vx_c {args : Array Value} {s : State} {w : Cond} {B : List Cond} (h : w.before args s = true) (t : ∀ w ∈ B, w.before args s = true) : ∀ w' ∈ w :: B, w'.before args s = true := fun w' h' => (List.mem_cons.mp h').elim (fun e => by rw [e]; exact h) (t w')
theorem vx_n {args : Array Value} {s : State} : ∀ w ∈ ([] : List Cond), w.before args s = true := fun _ h => nomatch h
theorem vx_own {args : Array Value} {s : State} {L : List Cond} (h1 : ∀ w ∈ L.filter vx_no, w.before args s = true)
    (hU : (Cond.isRef (.static Bundle.tN "UNASSIGNED_STACK" Bundle.steD)).before args s = true) (hN : (Cond.isRef (.static Bundle.tN "SUPPRESSED_SENTINEL" Bundle.listD)).before args s = true)
    (lU : (Cond.laysStatic Bundle.tN "UNASSIGNED_STACK" Bundle.steD).before args s = true) (lN : (Cond.laysStatic Bundle.tN "SUPPRESSED_SENTINEL" Bundle.listD).before args s = true) : ∀ w ∈ L, w.before args s = true := by
  intro w hw
  by_cases e1 : w = .isRef (.static Bundle.tN "UNASSIGNED_STACK" Bundle.steD)
  · rw [e1]; exact hU
  · by_cases e2 : w = .isRef (.static Bundle.tN "SUPPRESSED_SENTINEL" Bundle.listD)
    · rw [e2]; exact hN
    · by_cases e3 : w = .laysStatic Bundle.tN "UNASSIGNED_STACK" Bundle.steD
      · rw [e3]; exact lU
      · by_cases e4 : w = .laysStatic Bundle.tN "SUPPRESSED_SENTINEL" Bundle.listD
        · rw [e4]; exact lN
        · exact h1 w (List.mem_filter.mpr ⟨hw, by unfold vx_no; rw [decide_eq_true e1, decide_eq_true e2, decide_eq_true e3, decide_eq_true e4]; rfl⟩)
/-- where a static field lies, its class's statics cell in H -/
def vx_L (C n d : String) (A : Nat → Prop) (U : State) (H : Heap) : Prop := ∃ (c : ClassId) (k : Class) (i : Nat) (f : Field) (a : Nat) (cell : Cell), U.vm.findClass C = some c ∧ U.fieldFound? C n d = some (c, k, i, f) ∧ f.isStatic = true ∧ k.statics = some a ∧ H[a]? = some cell ∧ cell.vm.isStatics = true ∧ cell.cls = c ∧ f.slot < cell.slots.size ∧ k.staticTypes[f.slot]? = some f.type ∧ ¬ A a
theorem vx_L.moved {C n d : String} {A : Nat → Prop} {u U : State} {H : Heap} (hvm : u.vm.Alike U.vm) (h : vx_L C n d A u H) : vx_L C n d A U H := by
  obtain ⟨c, k, i, f, a, cell, h1, h2, h3, h4, h5, h6, h7, h8, h9, h10⟩ := h
  obtain ⟨k', hi', he⟩ := State.fieldFound?_setVm hvm h2
  exact ⟨c, k', i, f, a, cell, by rw [hvm.findClass]; exact h1, hi', h3, by rw [he]; exact h4, h5, h6, h7, h8, by rw [he]; exact h9, h10⟩
theorem vx_L.kept {C n d : String} {A : Nat → Prop} {U : State} {H H1 : Heap} (h : vx_L C n d A U H) (hq : ∀ a : Nat, a < H.size → ¬ A a → H1[a]? = H[a]?) : vx_L C n d A U H1 := by
  obtain ⟨c, k, i, f, a, cell, h1, h2, h3, h4, h5, h6, h7, h8, h9, h10⟩ := h
  exact ⟨c, k, i, f, a, cell, h1, h2, h3, h4, by rw [hq a (Array.getElem?_eq_some_iff.mp h5).1 h10]; exact h5, h6, h7, h8, h9, h10⟩
theorem vx_L.narrow {C n d : String} {A B : Nat → Prop} {U : State} {H : Heap} (h : vx_L C n d A U H) (hAB : ∀ q, B q → A q) : vx_L C n d B U H := by
  obtain ⟨c, k, i, f, a, cell, h1, h2, h3, h4, h5, h6, h7, h8, h9, h10⟩ := h
  exact ⟨c, k, i, f, a, cell, h1, h2, h3, h4, h5, h6, h7, h8, h9, fun z => h10 (hAB _ z)⟩
theorem vx_L.word {C n d : String} {A : Nat → Prop} {s : State} {args : Array Value} (h : vx_L C n d A s s.heap) : (Cond.laysStatic C n d).before args s = true := by
  obtain ⟨c, k, i, f, a, cell, h1, h2, h3, h4, h5, h6, h7, h8, h9, -⟩ := h
  show (Cond.laysStatic C n d).holds args s none s [] = true
  exact Cond.laysStatic_of h1 h2 h3 h4 h5 h6 h7 h8 h9
/-- .. and what it holds: null or some reference -/
def vx_Zq (C n d : String) (A : Nat → Prop) (U : State) (H : Heap) : Prop := va_Zq C n d A U H ∧ vx_L C n d A U H
theorem vx_Zq.moved {C n d : String} {A : Nat → Prop} {u U : State} {H : Heap} (hvm : u.vm.Alike U.vm) (h : vx_Zq C n d A u H) : vx_Zq C n d A U H := ⟨va_Zq.moved hvm h.1, vx_L.moved hvm h.2⟩
theorem vx_Zq.kept {C n d : String} {A : Nat → Prop} {U : State} {H H1 : Heap} (h : vx_Zq C n d A U H) (hq : ∀ a : Nat, a < H.size → ¬ A a → H1[a]? = H[a]?) : vx_Zq C n d A U H1 := ⟨va_Zq.kept h.1 hq, vx_L.kept h.2 hq⟩
theorem vx_Zq.narrow {C n d : String} {A B : Nat → Prop} {U : State} {H : Heap} (h : vx_Zq C n d A U H) (hAB : ∀ q, B q → A q) : vx_Zq C n d B U H := ⟨va_Zq.narrow h.1 hAB, vx_L.narrow h.2 hAB⟩
theorem vx_Zqof {args : Array Value} {s : State} {C n d : String} {A : Nat → Prop} (hl : (Cond.laysStatic C n d).before args s = true) (hini : (Cond.initialized C).before args s = true) (h : (Cond.isRef (.static C n d)).before args s = true) (hA : ∀ a : Nat, a < s.heap.size → ¬ A a) : vx_Zq C n d A s s.heap := by
  refine ⟨va_Zqof hl hini h hA, ?_⟩
  obtain ⟨c, k, i, f, a, cell, h1, h2, h3, h4, h5, h6, h7, h8, h9⟩ := Cond.laysStatic_spec hl
  exact ⟨c, k, i, f, a, cell, h1, h2, h3, h4, h5, h6, h7, h8, h9, hA a (Array.getElem?_eq_some_iff.mp h5).1⟩
theorem vx_isRef {C n d : String} {v : Value} {A : Nat → Prop} {s : State} {args : Array Value} (h : va_Z C n d v A s s.heap) (hv : v.isRef = true) : (Cond.isRef (.static C n d)).before args s = true := by
  obtain ⟨cf, kf, fi, f, a, cell, h1, h2, h3, h4, h5, h6, h7, -⟩ := h
  have he : (Term.static C n d).eval args s none [] s = some v := by
    simp [Term.eval, State.fieldNamed?, h1, h2, h4, h5, h6, h7]
  simp only [Cond.before, Cond.holds, Cond.value, he]
  cases v <;> simp_all [Value.isRef]
theorem vx_isRefq {C n d : String} {A : Nat → Prop} {s : State} {args : Array Value} (h : va_Zq C n d A s s.heap) : (Cond.isRef (.static C n d)).before args s = true := by
  rcases h with h | ⟨t, h⟩
  · exact vx_isRef h rfl
  · exact vx_isRef h rfl
/-- the same frame, seen from here: as if the method were called anew in this heap -/
theorem vx_rebase {T : State} (X : Stand p l e R s m args below meth c T locs cells slots) {R' : Room} (hf : R'.frames ≤ R.frames) (hl : R'.locals ≤ R.locals) (hc : cells + R'.cells ≤ R.cells) (hs : slots + R'.slots ≤ R.slots) :
    Stand p l e R' ((T.setVm s.vm).setFrames (.invoking m args :: below)) m args below meth c T [] 0 0 := by
  have htop : (T.setVm s.vm).topJava?.isSome := X.here.top
  have hF : ((T.setVm s.vm).setFrames (.invoking m args :: below)).frames = .invoking m args :: below := State.frames_setFrames _ (State.cur_lt_of_top htop)
  obtain ⟨g₀, hg0⟩ := Option.isSome_iff_exists.mp htop
  obtain ⟨r, hr⟩ := State.topJava?_eq_some.mp hg0
  have hl9 : e.platform.stackLimits (T.setVm s.vm).me = e.platform.stackLimits s.me := X.limits
  have hb9 : (T.setVm s.vm).me.stackBytes = s.me.stackBytes := X.bytes
  refine ⟨X.admits, X.cas, X.clock, hF, ?_, X.hears, X.method, X.code, X.here, X.tail, X.warmed, ?_, ?_, ?_⟩
  · have h := X.room
    have hU : ((T.setVm s.vm).setFrames (.invoking m args :: below)).localsInUse = s.localsInUse := by
      rw [State.localsInUse_invoking hF (meth := meth) (c := c) X.method X.code, State.localsInUse_invoking X.frames X.method X.code]
    simp only [State.hasRoom, Bool.and_eq_true, decide_eq_true_eq] at h ⊢
    obtain ⟨⟨⟨⟨h1, h2, h3, h4, h5, h6⟩, h7⟩, h8⟩, h9⟩ := h
    rw [X.frames, List.length_cons] at h2 h3
    have q1 := X.heapSize
    have q2 := X.used
    simp only [hF, hU, List.length_cons, State.stackLimits_setFrames, State.stackBytes_setFrames, hl9, hb9]
    refine ⟨⟨⟨⟨by omega, by omega, by omega, by omega, by omega, h6⟩, ?_⟩, ?_⟩, X.book⟩
    · show T.heap.size + R'.cells ≤ e.platform.maxCells
      omega
    · show T.slotsUsed + R'.slots ≤ e.platform.maxSlots
      omega
  · rw [State.stackLimits_setFrames]; rfl
  · rw [State.stackBytes_setFrames]; rfl
  · refine ⟨?_, Nat.le_refl _, Nat.le_refl _, ?_, ?_, fun a c9 h9 => ⟨c9, h9, rfl, rfl, fun _ _ => rfl⟩⟩
    · obtain ⟨t, ht, -⟩ := State.frames_cons hr
      show T.setVm s.vm = { ((T.setVm s.vm).setFrames (.invoking m args :: below)).setFrames (T.setVm s.vm).frames with heap := T.heap, slotsUsed := T.slotsUsed }
      rw [State.setFrames_setFrames, State.setFrames_self ht]
      rfl
    · show T.slotsUsed = T.slotsUsed + ((T.heap.toList.drop T.heap.size).map (·.slots.size)).sum
      rw [List.drop_eq_nil_of_le (Nat.le_of_eq Array.length_toList)]
      rfl
    · show ((T.heap.toList.drop T.heap.size).map (·.slots.size)).sum ≤ 0
      rw [List.drop_eq_nil_of_le (Nat.le_of_eq Array.length_toList)]
      exact Nat.le_refl _
/-- 'throw new E()': new; dup; invokespecial; athrow -/
theorem vx_throw0 {cc : ByteArray} {pc : Nat} (hexec : p.tables.exec = Jvm.exec) (hb : c.code = cc) (hl : l.stackTraces = false) {own cls : String} {names : List String} {ik ic mc ms : Nat} {A : Nat → Prop}
    (hown : s.vm.findClass own = some m.cls) (hcls : Bundle.fit cls = true) (hnames : ∀ n ∈ names, Bundle.fit n = true)
    (hk : (Cond.classLink own ik cls).before args s = true) (hini : (Cond.initialized cls).before args s = true) (hat : ∀ w ∈ vx_at0 own ic cls names, w.before args s = true)
    (hgood : ∀ w ∈ Cond.classLink own ik cls :: Cond.initialized cls :: vx_at0 own ic cls names, vx_ot w = true)
    (hU : vx_Zq Bundle.tN "UNASSIGNED_STACK" Bundle.steD A s s.heap) (hN : vx_Zq Bundle.tN "SUPPRESSED_SENTINEL" Bundle.listD A s s.heap) (hS : va_S A s.heap H locs) (hsize : ls.size = c.maxLocals)
    (d0 : decode cc pc = .ok (.new ik, 3)) (d3 : decode cc (pc + 3) = .ok (.dup, 1)) (d4 : decode cc (pc + 4) = .ok (.invokespecial ic, 3)) (d7 : decode cc (pc + 7) = .ok (.athrow, 1))
    (hout : ∀ x ∈ c.exceptionTable.toList, covers x (pc + 7) = false)
    (hRframes : names.length + 3 < R.frames) (hRlocals : (rest.map fun v => v.category).sum + (13 * (names.length + 1) + 42) ≤ R.locals) (hRcells : cells + 1 ≤ R.cells) (hRslots : slots + 6 ≤ R.slots) (hlocks : meth.locks = false)
    (hx : ∀ t : State, s.vm.Alike t.vm → H.size ≤ t.heap.size → (∀ q : Nat, q < H.size → t.heap[q]? = H[q]?) → XC cls s t)
    (hf : ∀ z ∈ locs, free z.base) (hc : cells + 1 ≤ mc) (hs : slots + 6 ≤ ms) :
    W p l e R s m args below meth c H locs cells slots (vx_MQ below Qc XC args s mc ms free) (F0 m pc ls rest) := by
  intro T hT X
  have htr : e.platform.stackTraces = false := (show e.platform.stackTraces = l.stackTraces by rw [X.admits.platform]).trans hl
  have Y := vx_rebase X (R' := { frames := R.frames, locals := R.locals, cells := 1, slots := 6 }) (Nat.le_refl _) (Nat.le_refl _) hRcells hRslots
  obtain ⟨s', hA⟩ : ∃ z, z = (T.setVm s.vm).setFrames (.invoking m args :: below) := ⟨_, rfl⟩
  rw [← hA] at Y
  have hvm : s'.vm = s.vm := by rw [hA]; rfl
  have hhp : s'.heap = H := by rw [hA]; exact hT
  have hW0 : s.WarmedH s'.vm := by rw [hvm]; exact State.WarmedH.refl s
  have hat' : ∀ w ∈ vx_at0 own ic cls names, w.before args s' = true := fun w hw => vx_ot_at hW0 hvm.symm (hgood w (List.mem_cons_of_mem _ (List.mem_cons_of_mem _ hw))) (hat w hw)
  have hk' : (Cond.classLink own ik cls).before args s' = true := vx_ot_at hW0 hvm.symm (hgood _ List.mem_cons_self) hk
  have hini' : (Cond.initialized cls).before args s' = true := vx_ot_at hW0 hvm.symm (hgood _ (List.mem_cons_of_mem _ List.mem_cons_self)) hini
  have hU' : vx_Zq Bundle.tN "UNASSIGNED_STACK" Bundle.steD A s' s'.heap := by rw [hhp]; exact vx_Zq.moved hW0.alike (hU.kept hS.2.1)
  have hN' : vx_Zq Bundle.tN "SUPPRESSED_SENTINEL" Bundle.listD A s' s'.heap := by rw [hhp]; exact vx_Zq.moved hW0.alike (hN.kept hS.2.1)
  have h : ∀ w ∈ Bundle.ownAtoms0 own ic cls names, w.before args s' = true := vx_own hat' (vx_isRefq hU'.1) (vx_isRefq hN'.1) hU'.2.word hN'.2.word
  have hown' : s'.vm.findClass own = some m.cls := by rw [hvm]; exact hown
  have hins : (Cond.instantiable cls 6).before args s' = true := h _ (by simp [Bundle.ownAtoms0])
  obtain ⟨vm₁, cX, kX, hfX, hkX, -, -, X₁, st1⟩ := Y.newCold hexec (own := own) (C := cls) (index := ik) (n := 6) hown' hk' hins hini'
    (g := F0 m pc ls rest) rfl (by rw [hb]; exact d0) (Nat.le_refl _) (Nat.le_refl _)
  generalize hT1 : (T.setVm vm₁).pushCell { cls := cX, slots := kX.instanceTypes.map defaultValue, vm := .none } = T1 at X₁ st1
  have hcat : (Value.ref T.heap.size).category = 1 := rfl
  have hcellA : T1.heap[T.heap.size]? = some (freshCell cX kX) := by rw [← hT1]; exact State.heap_pushCell_size _ _
  have d3' : decode c.code (pc + 3) = .ok (.dup, 1) := by rw [hb]; exact d3
  obtain ⟨U, hsteps, hrun, hend, hW, hsame, ce, hce, hO⟩ := X₁.ctorThrow0 hexec htr (own := own) (cls := cls) (names := names) (ic := ic) hown' hcls hnames h (fun x hx => nomatch hx) hfX hkX hcellA (by rw [hhp, hT]; exact Nat.le_refl _)
    (g := { method := m, pc := pc + 4, locals := ls, stack := .ref T.heap.size :: .ref T.heap.size :: rest, locked := none }) rfl hsize rfl rfl (rest := rest) rfl
    (by rw [hb]; exact d4) (by rw [hb]; exact d7) hout hRframes (by simp only [List.map_cons, List.sum_cons, hcat]; omega) hlocks
  obtain ⟨f1, f2⟩ := vx_frame hsame
  rw [hhp] at f1 f2
  have hWs : s.WarmedH U.vm := State.WarmedH.trans hW0 hW
  have hcl : s.vm.findClass cls = some ce.cls := by
    have h9 := hO.cls
    rw [hvm] at h9
    exact h9
  have hall : s.sameButNew ({ U with vm := s.vm } : State) locs mc ms := by
    subst hA
    obtain ⟨e1, e2⟩ := hsame
    rw [State.setFrames_setFrames] at e1
    have h2 : (T.setVm s.vm).sameButNew ({ U with vm := s.vm } : State) [] (0 + 1) (0 + 6) := ⟨e1, e2⟩
    have h3 := X.same.trans h2
    rw [List.append_nil] at h3
    exact h3.mono hc hs
  refine ⟨U, ?_, .threw T.heap.size, hrun, hend, Or.inr ⟨T.heap.size, rfl, cls, ce, locs, hx U hWs.alike f1 (fun q hq => f2 q hq (fun z hz => nomatch hz)), hce, hO.vm, hcl, hWs, hall, hf⟩⟩
  refine st1 _ ?_
  show Steps p.tables e below (T1.setTop { method := m, pc := pc + 3, locals := ls, stack := .ref T.heap.size :: rest, locked := none }) _
  jvm_step X₁.here [X₁.here.top, hexec, d3', Value.category]
  exact hsteps
/-- 'throw new E("text")': new; dup; ldc; invokespecial; athrow -/
theorem vx_throwS {cc : ByteArray} {pc : Nat} (hexec : p.tables.exec = Jvm.exec) (hb : c.code = cc) (hl : l.stackTraces = false) {own cls text : String} {names : List String} {ik is ic mc ms sa : Nat} {A : Nat → Prop}
    (hown : s.vm.findClass own = some m.cls) (hcls : Bundle.fit cls = true) (hnames : ∀ n ∈ names, Bundle.fit n = true)
    (hk : (Cond.classLink own ik cls).before args s = true) (hini : (Cond.initialized cls).before args s = true) (hstr : vk_R own is text sa s) (hat : ∀ w ∈ vx_atS own ic cls names, w.before args s = true)
    (hgood : ∀ w ∈ Cond.classLink own ik cls :: Cond.initialized cls :: vx_atS own ic cls names, vx_ot w = true)
    (hU : vx_Zq Bundle.tN "UNASSIGNED_STACK" Bundle.steD A s s.heap) (hN : vx_Zq Bundle.tN "SUPPRESSED_SENTINEL" Bundle.listD A s s.heap) (hS : va_S A s.heap H locs) (hsize : ls.size = c.maxLocals)
    (d0 : decode cc pc = .ok (.new ik, 3)) (d3 : decode cc (pc + 3) = .ok (.dup, 1)) (d4 : decode cc (pc + 4) = .ok (.ldc is, 2)) (d6 : decode cc (pc + 6) = .ok (.invokespecial ic, 3)) (d9 : decode cc (pc + 9) = .ok (.athrow, 1))
    (hout : ∀ x ∈ c.exceptionTable.toList, covers x (pc + 9) = false)
    (hRframes : names.length + 3 < R.frames) (hRlocals : (rest.map fun v => v.category).sum + (13 * (names.length + 1) + 43) ≤ R.locals) (hRcells : cells + 1 ≤ R.cells) (hRslots : slots + 6 ≤ R.slots) (hlocks : meth.locks = false)
    (hx : ∀ t : State, s.vm.Alike t.vm → H.size ≤ t.heap.size → (∀ q : Nat, q < H.size → t.heap[q]? = H[q]?) → XC cls s t)
    (hf : ∀ z ∈ locs, free z.base) (hc : cells + 1 ≤ mc) (hs : slots + 6 ≤ ms) :
    W p l e R s m args below meth c H locs cells slots (vx_MQ below Qc XC args s mc ms free) (F0 m pc ls rest) := by
  intro T hT X
  have htr : e.platform.stackTraces = false := (show e.platform.stackTraces = l.stackTraces by rw [X.admits.platform]).trans hl
  have Y := vx_rebase X (R' := { frames := R.frames, locals := R.locals, cells := 1, slots := 6 }) (Nat.le_refl _) (Nat.le_refl _) hRcells hRslots
  obtain ⟨s', hA⟩ : ∃ z, z = (T.setVm s.vm).setFrames (.invoking m args :: below) := ⟨_, rfl⟩
  rw [← hA] at Y
  have hvm : s'.vm = s.vm := by rw [hA]; rfl
  have hhp : s'.heap = H := by rw [hA]; exact hT
  have hW0 : s.WarmedH s'.vm := by rw [hvm]; exact State.WarmedH.refl s
  have hat' : ∀ w ∈ vx_atS own ic cls names, w.before args s' = true := fun w hw => vx_ot_at hW0 hvm.symm (hgood w (List.mem_cons_of_mem _ (List.mem_cons_of_mem _ hw))) (hat w hw)
  have hk' : (Cond.classLink own ik cls).before args s' = true := vx_ot_at hW0 hvm.symm (hgood _ List.mem_cons_self) hk
  have hini' : (Cond.initialized cls).before args s' = true := vx_ot_at hW0 hvm.symm (hgood _ (List.mem_cons_of_mem _ List.mem_cons_self)) hini
  have hU' : vx_Zq Bundle.tN "UNASSIGNED_STACK" Bundle.steD A s' s'.heap := by rw [hhp]; exact vx_Zq.moved hW0.alike (hU.kept hS.2.1)
  have hN' : vx_Zq Bundle.tN "SUPPRESSED_SENTINEL" Bundle.listD A s' s'.heap := by rw [hhp]; exact vx_Zq.moved hW0.alike (hN.kept hS.2.1)
  have h : ∀ w ∈ Bundle.ownAtoms own ic cls names, w.before args s' = true := vx_own hat' (vx_isRefq hU'.1) (vx_isRefq hN'.1) hU'.2.word hN'.2.word
  have hown' : s'.vm.findClass own = some m.cls := by rw [hvm]; exact hown
  have hins : (Cond.instantiable cls 6).before args s' = true := h _ (by simp [Bundle.ownAtoms])
  obtain ⟨vm₁, cX, kX, hfX, hkX, -, -, X₁, st1⟩ := Y.newCold hexec (own := own) (C := cls) (index := ik) (n := 6) hown' hk' hins hini'
    (g := F0 m pc ls rest) rfl (by rw [hb]; exact d0) (Nat.le_refl _) (Nat.le_refl _)
  generalize hT1 : (T.setVm vm₁).pushCell { cls := cX, slots := kX.instanceTypes.map defaultValue, vm := .none } = T1 at X₁ st1
  have hcat : (Value.ref T.heap.size).category = 1 := rfl
  have hcellA : T1.heap[T.heap.size]? = some (freshCell cX kX) := by rw [← hT1]; exact State.heap_pushCell_size _ _
  have d3' : decode c.code (pc + 3) = .ok (.dup, 1) := by rw [hb]; exact d3
  have d4' : decode c.code (pc + 4) = .ok (.ldc is, 2) := by rw [hb]; exact d4
  have hstr' : vk_R own is text sa s' := vk_R.warm hW0 hstr
  obtain ⟨U, hsteps, hrun, hend, hW, hsame, ce, hce, hO⟩ := X₁.ctorThrowS hexec htr (own := own) (cls := cls) (names := names) (ic := ic) hown' hcls hnames h (fun x hx => nomatch hx) hfX hkX hcellA (by rw [hhp, hT]; exact Nat.le_refl _) (msg := .ref sa) rfl
    (g := { method := m, pc := pc + 6, locals := ls, stack := .ref sa :: .ref T.heap.size :: .ref T.heap.size :: rest, locked := none }) rfl hsize rfl rfl (rest := rest) rfl
    (by rw [hb]; exact d6) (by rw [hb]; exact d9) hout hRframes (by simp only [List.map_cons, List.sum_cons, hcat]; omega) hlocks
  obtain ⟨f1, f2⟩ := vx_frame hsame
  rw [hhp] at f1 f2
  have hWs : s.WarmedH U.vm := State.WarmedH.trans hW0 hW
  have hcl : s.vm.findClass cls = some ce.cls := by
    have h9 := hO.cls
    rw [hvm] at h9
    exact h9
  have hall : s.sameButNew ({ U with vm := s.vm } : State) locs mc ms := by
    subst hA
    obtain ⟨e1, e2⟩ := hsame
    rw [State.setFrames_setFrames] at e1
    have h2 : (T.setVm s.vm).sameButNew ({ U with vm := s.vm } : State) [] (0 + 1) (0 + 6) := ⟨e1, e2⟩
    have h3 := X.same.trans h2
    rw [List.append_nil] at h3
    exact h3.mono hc hs
  refine ⟨U, ?_, .threw T.heap.size, hrun, hend, Or.inr ⟨T.heap.size, rfl, cls, ce, locs, hx U hWs.alike f1 (fun q hq => f2 q hq (fun z hz => nomatch hz)), hce, hO.vm, hcl, hWs, hall, hf⟩⟩
  refine st1 _ ?_
  show Steps p.tables e below (T1.setTop { method := m, pc := pc + 3, locals := ls, stack := .ref T.heap.size :: rest, locked := none }) _
  jvm_step X₁.here [X₁.here.top, hexec, d3', Value.category]
  exact X₁.ldcString hexec (own := own) (text := text) (index := is) (a := sa) hown' hstr'.1 hstr'.2
    (g := { method := m, pc := pc + 4, locals := ls, stack := .ref T.heap.size :: .ref T.heap.size :: rest, locked := none }) rfl d4' _ hsteps
/-- 'throw new E("text")', the text by a wide index -/
theorem vx_throwSW {cc : ByteArray} {pc : Nat} (hexec : p.tables.exec = Jvm.exec) (hb : c.code = cc) (hl : l.stackTraces = false) {own cls text : String} {names : List String} {ik is ic mc ms sa : Nat} {A : Nat → Prop}
    (hown : s.vm.findClass own = some m.cls) (hcls : Bundle.fit cls = true) (hnames : ∀ n ∈ names, Bundle.fit n = true)
    (hk : (Cond.classLink own ik cls).before args s = true) (hini : (Cond.initialized cls).before args s = true) (hstr : vk_R own is text sa s) (hat : ∀ w ∈ vx_atS own ic cls names, w.before args s = true)
    (hgood : ∀ w ∈ Cond.classLink own ik cls :: Cond.initialized cls :: vx_atS own ic cls names, vx_ot w = true)
    (hU : vx_Zq Bundle.tN "UNASSIGNED_STACK" Bundle.steD A s s.heap) (hN : vx_Zq Bundle.tN "SUPPRESSED_SENTINEL" Bundle.listD A s s.heap) (hS : va_S A s.heap H locs) (hsize : ls.size = c.maxLocals)
    (d0 : decode cc pc = .ok (.new ik, 3)) (d3 : decode cc (pc + 3) = .ok (.dup, 1)) (d4 : decode cc (pc + 4) = .ok (.ldc_w is, 3)) (d7 : decode cc (pc + 7) = .ok (.invokespecial ic, 3)) (d10 : decode cc (pc + 10) = .ok (.athrow, 1))
    (hout : ∀ x ∈ c.exceptionTable.toList, covers x (pc + 10) = false)
    (hRframes : names.length + 3 < R.frames) (hRlocals : (rest.map fun v => v.category).sum + (13 * (names.length + 1) + 43) ≤ R.locals) (hRcells : cells + 1 ≤ R.cells) (hRslots : slots + 6 ≤ R.slots) (hlocks : meth.locks = false)
    (hx : ∀ t : State, s.vm.Alike t.vm → H.size ≤ t.heap.size → (∀ q : Nat, q < H.size → t.heap[q]? = H[q]?) → XC cls s t)
    (hf : ∀ z ∈ locs, free z.base) (hc : cells + 1 ≤ mc) (hs : slots + 6 ≤ ms) :
    W p l e R s m args below meth c H locs cells slots (vx_MQ below Qc XC args s mc ms free) (F0 m pc ls rest) := by
  intro T hT X
  have htr : e.platform.stackTraces = false := (show e.platform.stackTraces = l.stackTraces by rw [X.admits.platform]).trans hl
  have Y := vx_rebase X (R' := { frames := R.frames, locals := R.locals, cells := 1, slots := 6 }) (Nat.le_refl _) (Nat.le_refl _) hRcells hRslots
  obtain ⟨s', hA⟩ : ∃ z, z = (T.setVm s.vm).setFrames (.invoking m args :: below) := ⟨_, rfl⟩
  rw [← hA] at Y
  have hvm : s'.vm = s.vm := by rw [hA]; rfl
  have hhp : s'.heap = H := by rw [hA]; exact hT
  have hW0 : s.WarmedH s'.vm := by rw [hvm]; exact State.WarmedH.refl s
  have hat' : ∀ w ∈ vx_atS own ic cls names, w.before args s' = true := fun w hw => vx_ot_at hW0 hvm.symm (hgood w (List.mem_cons_of_mem _ (List.mem_cons_of_mem _ hw))) (hat w hw)
  have hk' : (Cond.classLink own ik cls).before args s' = true := vx_ot_at hW0 hvm.symm (hgood _ List.mem_cons_self) hk
  have hini' : (Cond.initialized cls).before args s' = true := vx_ot_at hW0 hvm.symm (hgood _ (List.mem_cons_of_mem _ List.mem_cons_self)) hini
  have hU' : vx_Zq Bundle.tN "UNASSIGNED_STACK" Bundle.steD A s' s'.heap := by rw [hhp]; exact vx_Zq.moved hW0.alike (hU.kept hS.2.1)
  have hN' : vx_Zq Bundle.tN "SUPPRESSED_SENTINEL" Bundle.listD A s' s'.heap := by rw [hhp]; exact vx_Zq.moved hW0.alike (hN.kept hS.2.1)
  have h : ∀ w ∈ Bundle.ownAtoms own ic cls names, w.before args s' = true := vx_own hat' (vx_isRefq hU'.1) (vx_isRefq hN'.1) hU'.2.word hN'.2.word
  have hown' : s'.vm.findClass own = some m.cls := by rw [hvm]; exact hown
  have hins : (Cond.instantiable cls 6).before args s' = true := h _ (by simp [Bundle.ownAtoms])
  obtain ⟨vm₁, cX, kX, hfX, hkX, -, -, X₁, st1⟩ := Y.newCold hexec (own := own) (C := cls) (index := ik) (n := 6) hown' hk' hins hini'
    (g := F0 m pc ls rest) rfl (by rw [hb]; exact d0) (Nat.le_refl _) (Nat.le_refl _)
  generalize hT1 : (T.setVm vm₁).pushCell { cls := cX, slots := kX.instanceTypes.map defaultValue, vm := .none } = T1 at X₁ st1
  have hcat : (Value.ref T.heap.size).category = 1 := rfl
  have hcellA : T1.heap[T.heap.size]? = some (freshCell cX kX) := by rw [← hT1]; exact State.heap_pushCell_size _ _
  have d3' : decode c.code (pc + 3) = .ok (.dup, 1) := by rw [hb]; exact d3
  have d4' : decode c.code (pc + 4) = .ok (.ldc_w is, 3) := by rw [hb]; exact d4
  have hstr' : vk_R own is text sa s' := vk_R.warm hW0 hstr
  obtain ⟨U, hsteps, hrun, hend, hW, hsame, ce, hce, hO⟩ := X₁.ctorThrowS hexec htr (own := own) (cls := cls) (names := names) (ic := ic) hown' hcls hnames h (fun x hx => nomatch hx) hfX hkX hcellA (by rw [hhp, hT]; exact Nat.le_refl _) (msg := .ref sa) rfl
    (g := { method := m, pc := pc + 7, locals := ls, stack := .ref sa :: .ref T.heap.size :: .ref T.heap.size :: rest, locked := none }) rfl hsize rfl rfl (rest := rest) rfl
    (by rw [hb]; exact d7) (by rw [hb]; exact d10) hout hRframes (by simp only [List.map_cons, List.sum_cons, hcat]; omega) hlocks
  obtain ⟨f1, f2⟩ := vx_frame hsame
  rw [hhp] at f1 f2
  have hWs : s.WarmedH U.vm := State.WarmedH.trans hW0 hW
  have hcl : s.vm.findClass cls = some ce.cls := by
    have h9 := hO.cls
    rw [hvm] at h9
    exact h9
  have hall : s.sameButNew ({ U with vm := s.vm } : State) locs mc ms := by
    subst hA
    obtain ⟨e1, e2⟩ := hsame
    rw [State.setFrames_setFrames] at e1
    have h2 : (T.setVm s.vm).sameButNew ({ U with vm := s.vm } : State) [] (0 + 1) (0 + 6) := ⟨e1, e2⟩
    have h3 := X.same.trans h2
    rw [List.append_nil] at h3
    exact h3.mono hc hs
  refine ⟨U, ?_, .threw T.heap.size, hrun, hend, Or.inr ⟨T.heap.size, rfl, cls, ce, locs, hx U hWs.alike f1 (fun q hq => f2 q hq (fun z hz => nomatch hz)), hce, hO.vm, hcl, hWs, hall, hf⟩⟩
  refine st1 _ ?_
  show Steps p.tables e below (T1.setTop { method := m, pc := pc + 3, locals := ls, stack := .ref T.heap.size :: rest, locked := none }) _
  jvm_step X₁.here [X₁.here.top, hexec, d3', Value.category]
  exact X₁.ldcStringW hexec (own := own) (text := text) (index := is) (a := sa) hown' hstr'.1 hstr'.2
    (g := { method := m, pc := pc + 4, locals := ls, stack := .ref T.heap.size :: .ref T.heap.size :: rest, locked := none }) rfl d4' _ hsteps
end Ends
section Bodies
variable {l : Launch}
theorem vx_ofW {y : MethodName} {ws ws' : List Cond} {rm : Room} {Pc : Array Value → State → Prop} {Qc : Array Value → State → Outcome → State → Prop} {XC : String → State → State → Prop} {mc ms : Nat} {free : Addr → Prop} {cc : ByteArray} {maxL : Nat} {ret : Option FieldType}
    (hy : plainName y.cls = true) (hw : ws = Cond.code y cc maxL ret :: ws')
    (body : ∀ p e s m args below meth c s₁, BodyLoose p l y (headSpec ws rm) cc maxL ret e s m args below meth c s₁ → c.maxLocals = maxL → (∀ x ∈ c.exceptionTable.toList, False) → Pc args s →
      W p l e (headSpec ws rm).room s m args below meth c s.heap [] 0 0 (vx_MQ below Qc XC args s mc ms free) (entryFrame m args maxL)) : vx_Met l y ws rm Pc Qc XC mc ms free := by
  refine MetFree.of_bodyS (code := cc) (maxLocals := maxL) (ret := ret) hy ?_ ?_
  · intro args s m h hn
    obtain ⟨meth, c, h1, h2, h3, h4, h5, h6, -, -⟩ := Cond.code_spec hn (atoms_spec (ws := ws) h _ (by rw [hw]; exact List.mem_cons_self))
    exact ⟨meth, c, h1, h2, h3, h4, h5, h6⟩
  · intro p e s m args below meth c s₁ B hml hP _
    have hh0 : s₁.heap = s.heap := by rw [B.state]; rfl
    have ht : ∀ x ∈ c.exceptionTable.toList, False := by
      obtain ⟨meth9, c9, h1, h2, -, -, -, -, h7, -⟩ := Cond.code_spec B.named (atoms_spec (ws := ws) B.pre _ (by rw [hw]; exact List.mem_cons_self))
      cases Option.some.inj (h1.symm.trans B.method)
      cases Option.some.inj (h2.symm.trans (Stand.of_body B).code)
      intro x hx
      rw [Array.isEmpty_iff.mp h7] at hx
      cases hx
    obtain ⟨t, a1, o, b1, b2, b3⟩ := body p e s m args below meth c s₁ B hml ht hP s₁ hh0 (Stand.of_body B)
    exact ⟨t, o, a1, b1, b2, b3⟩
/-- the table of a body with handlers -/
theorem vx_table {p : Program} {x y : MethodName} {S : Spec} {cc bytes : ByteArray} {maxL maxL' : Nat} {ret ret' : Option FieldType} {e : Env} {s s₁ : State} {m : MethodId} {args : Array Value} {below : List Frame} {meth : Method} {c : Code} {hh : List (Nat × Nat × Nat × Nat)}
    (B : BodyLoose p l y S cc maxL ret e s m args below meth c s₁) (h : (Cond.codeWith y bytes maxL' ret' hh).before args s = true) : c.exceptionTable.toList = tableOf hh := by
  obtain ⟨m9, meth9, c9, hn9, h1, h2, -, -, h6, -⟩ := Cond.codeWith_spec h
  cases Option.some.inj (hn9.symm.trans B.named)
  cases Option.some.inj (h1.symm.trans B.method)
  cases Option.some.inj (h2.symm.trans (Stand.of_body B).code)
  rw [← h6, table_eq]
end Bodies
end VXA
/-! ===== END ===== -/
/-! ===== BEGIN a static call of a method with an exception table ===== -/
section VXS
variable {p : Program} {l : Launch} {e : Env} {R : Room} {s : State} {m : MethodId} {args : Array Value} {below : List Frame} {meth : Method} {c : Code} {T : State} {H : Heap} {locs : List Loc} {cells slots : Nat}
abbrev vx_CSW (R : Room) (s : State) (args : Array Value) (own : String) (index : Nat) (y : MethodName) (bytes : ByteArray) (maxL : Nat) (ret : Option FieldType) (hh : List (Nat × Nat × Nat × Nat)) (ws : List Cond) (rm : Room) (mc ms n : Nat) : Prop :=
  (rm.cells = mc ∧ rm.slots = ms ∧ rm.frames + 1 ≤ R.frames ∧ 8 + (maxL + 11) + rm.locals ≤ R.locals ∧ (∀ w ∈ ws, ∀ (a' : Array Value) (U : State), s.WarmedH U.vm → w.before a' U = true) ∧ Cond.codeWith y bytes maxL ret hh ∈ ws) ∧
  (Cond.codeWith y bytes maxL ret hh).before args s = true ∧ (Cond.initialized y.cls).before args s = true ∧ (y.cls ≠ "java/lang/invoke/MethodHandle" ∧ y.cls ≠ "java/lang/invoke/VarHandle") ∧
  (∀ sig, parseMethodDescriptor y.desc = some sig → n = sig.parameters.length) ∧ (Cond.methodLink own index y).before args s = true ∧ (Cond.static y).before args s = true
theorem vx_cwSW {own : String} {index maxL mc ms : Nat} {y : MethodName} {bytes : ByteArray} {ret : Option FieldType} {hh : List (Nat × Nat × Nat × Nat)} {Ts ws ws' : List Cond} {rm : Room} (n : Nat) (ht : ∀ w ∈ Ts, w.before args s = true) (hT : GoodIn Ts (va_wsS own index y ws)) (hw : ws = Cond.codeWith y bytes maxL ret hh :: ws') (hrc : rm.cells = mc) (hrs : rm.slots = ms)
    (hd : y.cls ≠ "java/lang/invoke/MethodHandle" ∧ y.cls ≠ "java/lang/invoke/VarHandle" ∧ (parseMethodDescriptor y.desc).map (fun d => d.parameters.length) = some n) (hR : rm.frames + 1 ≤ R.frames ∧ 8 + (maxL + 11) + rm.locals ≤ R.locals) :
    vx_CSW R s args own index y bytes maxL ret hh ws rm mc ms n := by
  have ok : ∀ w ∈ va_wsS own index y ws, w.before args s = true := fun w h => ht w (hT w h).1
  have hG : GoodIn Ts ws := fun w h => hT w (by unfold va_wsS; exact List.mem_append_right _ h)
  have hc : Cond.codeWith y bytes maxL ret hh ∈ ws := by rw [hw]; exact List.mem_cons_self
  refine ⟨⟨hrc, hrs, hR.1, hR.2, pay_in ht hG, hc⟩, ht _ (hG _ hc).1, ok _ (by simp [va_wsS]), ⟨hd.1, hd.2.1⟩, fun sig h => ?_, ok _ (by simp [va_wsS]), ok _ (by simp [va_wsS])⟩
  have h2 := hd.2.2
  rw [h] at h2
  exact (Option.some.inj h2).symm
theorem vx_callSW (X : Stand p l e R s m args below meth c T locs cells slots) (hexec : p.tables.exec = Jvm.exec) {own : String} {index : Nat} {y : MethodName} {bytes : ByteArray} {maxL : Nat} {ret : Option FieldType} {hh : List (Nat × Nat × Nat × Nat)}
    (hown : s.vm.findClass own = some m.cls) (hlink : (Cond.methodLink own index y).before args s = true) (hstat : (Cond.static y).before args s = true) (hinit : (Cond.initialized y.cls).before args s = true)
    (hcode : (Cond.codeWith y bytes maxL ret hh).before args s = true) (hy : y.cls ≠ "java/lang/invoke/MethodHandle" ∧ y.cls ≠ "java/lang/invoke/VarHandle")
    {W9 : Nat} {Pre : Pt → Array Value → Prop} {Post : Pt → Array Value → Option Value → Pt → Prop} (hK : Back l R p e below s args y 3 W9 Pre Post)
    {g : JFrame} (hg : g.method = m) (hsize : g.locals.size = c.maxLocals) {argsL rest : List Value} (hlen : ∀ sig, parseMethodDescriptor y.desc = some sig → argsL.length = sig.parameters.length)
    (hstack : g.stack = argsL.reverse ++ rest) (hW : 2 * g.monitorRoom + (rest.map fun v => v.category).sum ≤ W9) (hdg : decode c.code g.pc = .ok (.invokestatic index, 3))
    (hpre : ∀ vm₁, s.WarmedH vm₁ → Pre ⟨T.setVm vm₁, locs, cells, slots⟩ argsL.toArray) :
    ∃ (v : Option Value) (vm₁ : Vm) (B : Pt), s.WarmedH vm₁ ∧ Stand p l e R s m args below meth c B.U B.locs B.cells B.slots ∧ Post ⟨T.setVm vm₁, locs, cells, slots⟩ argsL.toArray v B ∧
      ∀ target, Steps p.tables e below (B.U.setTop { g with pc := g.pc + 3, stack := v.toList ++ rest }) target → Steps p.tables e below (T.setTop g) target := by
  obtain ⟨mk, methM, cM, hnamed, hmethM, -, -, -, -, -, -, hsigM⟩ := Cond.codeWith_spec hcode
  have hstatic : methM.isStatic = true := Cond.static_spec hnamed hmethM hstat
  obtain ⟨kP, hkP, -⟩ := className_of_methodNamed hnamed
  have hinitP : kP.init = .initialized := Cond.initialized_spec (findClass_of_methodNamed hnamed) hkP hinit
  obtain ⟨vm₁, X₁, hstep₁⟩ := X.invokestatic hexec hown hlink hnamed hmethM hstatic hkP hinitP hy (g := g) hg (argsL := argsL) (rest := rest) (hlen _ hsigM) hstack hdg
  obtain ⟨v, B, X', hpost, hsteps⟩ := hK m meth c ⟨T.setVm vm₁, locs, cells, slots⟩ { g with stack := rest } (.invokestatic index) mk argsL.toArray X₁ hg hsize hdg hW (X₁.named hnamed) (hpre vm₁ X₁.warmed)
  exact ⟨v, vm₁, B, X₁.warmed, X', hpost, fun target h => hstep₁ _ fun acts => by rw [doInvoke_state]; exact hsteps.trans h⟩
theorem vx_runSW {y : MethodName} {bytes cc : ByteArray} {maxL nL mc ms n index : Nat} {ret : Option FieldType} {hh : List (Nat × Nat × Nat × Nat)} {ws : List Cond} {rm : Room} {Pc : Array Value → State → Prop} {Qc : Array Value → State → Outcome → State → Prop} {free : Addr → Prop} {Ts : List Cond} {own : String} {As rest : List Value} {g : JFrame}
    (S : CallFix p m c cc nL s args Ts own) (hM : Met l y ws rm Pc Qc mc ms free) (cw : vx_CSW R s args own index y bytes maxL ret hh ws rm mc ms n) (hp : PreS s H Pc As)
    (hg : g.method = m) (hn : As.length = n) (hsize : g.locals.size = nL) (hstack : g.stack = As.reverse ++ rest) (hW : 2 * g.monitorRoom + (rest.map fun v => v.category).sum ≤ 8) (hdg : decode cc g.pc = .ok (.invokestatic index, 3)) (hf : cells + mc ≤ R.cells ∧ slots + ms ≤ R.slots) :
    va_Run p l e R s m args below meth c H locs cells slots mc ms g rest (Qc As.toArray) (free) := by
  obtain ⟨⟨hrc, hrs, hfr, hlo, hws, hcw⟩, hcode, hini, hy, hlen, hl, hstt⟩ := cw
  have hK : Back l R p e below s args y 3 8 (PreOf R mc ms Pc) (PostOf Qc mc ms free) := va_backW (hh := hh) (bytes := bytes) (maxL := maxL) (ret := ret) hM hp.1 hrc hrs hfr hlo hws hcw (fun a' U hW => word_at hW (Or.inl (by first | rfl | simp [Cond.onTables, Cond.keeps, Cond.steady])) hini)
  obtain ⟨hx, hb, hml, ho, -⟩ := S
  intro T hT X
  obtain ⟨v, vm₁, ⟨U', l2, c2, s2⟩, hW₁, X', ⟨g', mk, t, L, e1, e2, hq, h1, hL, h2, h3⟩, st⟩ := vx_callSW X hx (hh := hh) (bytes := bytes) (maxL := maxL) (ret := ret) ho hl hstt hini hcode hy hK hg (hsize.trans hml.symm) (argsL := As) (rest := rest) (fun sig h => hn.trans (hlen sig h)) hstack hW (by rw [hb]; exact hdg)
    (fun vm₁ hW₁ => ⟨hf.1, hf.2, hp.2 (T.setVm vm₁) hT hW₁⟩)
  dsimp only [Pt.U, Pt.locs, Pt.cells, Pt.slots] at X' e1 e2 h1 h2 h3 st
  subst h1; subst h2; subst h3
  exact ⟨v, (T.setVm vm₁).calling g' mk As.toArray, t, U', L, hT, X', hL, e1, e2, hq, st⟩
/-- not caught here, past rows that name other classes: it goes on to the caller -/
theorem vx_outP {p : Program} {l : Launch} {e : Env} {R : Room} {s : State} {m : MethodId} {args : Array Value} {below : List Frame} {meth : Method} {c : Code} {H : Heap} {locs : List Loc} {cells slots : Nat} {free : Addr → Prop} {ls : Array Slot} {rest : List Value} {Qc : Array Value → State → Outcome → State → Prop} {XC : String → State → State → Prop}
    {pc : Nat} {own E : String} {ce : Cell} {q : Addr} {mc ms : Nat} (hown : s.vm.findClass own = some m.cls) (hlocks : meth.locks = false)
    (hpass : ∀ z ∈ c.exceptionTable.toList, covers z pc = false ∨ (z.catchType ≠ 0 ∧ ∃ nm : String, (Cond.classLink own z.catchType nm).before args s = true ∧ va_Nc E nm s)) (hcell : H[q]? = some ce) (hv : ce.vm = .none) (hcl : s.vm.findClass E = some ce.cls)
    (hx : ∀ t : State, t.heap = H → s.vm.Alike t.vm → XC E s t) (hf : ∀ z ∈ locs, free z.base) (hc : cells ≤ mc) (hs : slots ≤ ms) :
    vx_W p l e R s m args below meth c H locs cells slots (vx_MQ below Qc XC args s mc ms free) (F0 m pc ls rest) q := by
  intro T hT X
  have hpl : e.platform.magicAccessors = ({} : Platform).magicAccessors := by rw [X.admits.platform]
  obtain ⟨vm', hW', X', st⟩ := X.outThrough hlocks q (g := F0 m pc ls rest) rfl rfl rfl (cell := ce) (by rw [hT]; exact hcell) (by rw [hv]; rfl)
    (by obtain ⟨k9, h9, -⟩ := Vm.findClass_spec hcl; exact ⟨k9, h9⟩) (fun z hz => by
      rcases hpass z hz with h | ⟨hz0, nm, hl1, hn1⟩
      · exact Or.inl h
      · obtain ⟨c6, hc6, hcl6⟩ := Cond.classLink_spec hown hl1 e.platform hpl
        obtain ⟨a8, b8, h1, h2, h3⟩ := hn1
        cases Option.some.inj (h1.symm.trans hcl)
        cases Option.some.inj (h2.symm.trans hc6)
        exact Or.inr ⟨hz0, _, hcl6, h3⟩)
  obtain ⟨g₀, hfr⟩ := X'.frames_eq
  have hcell9 : ((T.setVm vm').setFrames (.throwing q :: below)).heap[q]? = some ce := by
    show T.heap[q]? = some ce
    rw [hT]; exact hcell
  have hend : Ended ((T.setVm vm').setFrames (.throwing q :: below)) below (.threw q) := State.frames_setFrames _ (State.cur_lt_of_frames hfr)
  refine ⟨(T.setVm vm').setFrames (.throwing q :: below), ?_, .threw q, X'.here.running, hend, Or.inr ⟨q, rfl, E, ce, locs, hx _ hT (X'.ends _).1.alike, hcell9, hv, hcl, (X'.ends _).1, (X'.ends _).2.mono hc hs, hf⟩⟩
  rw [X.pushThrowing_eq]
  exact st
/-- a thing of a world lies in the heap -/
theorem vx_lt {D : va_G} {cl : List vw_C} {ws : va_W} {H1 : Heap} (h : va_P D cl ws H1) {k : Nat} {q : Nat × va_E} (hk : ws[k]? = some q) : q.1 < H1.size := (h k q hk).lt
end VXS
/-! ===== END ===== -/
/-! ===== BEGIN methods with a table of their own: called by a name, returning or throwing ===== -/
section VXH
/-! vx_backW, vx_callVX, vx_callSX, vx_callVW, vx_runVW, vx_runVX, vx_runSX, vx_ofWH follow the same proofs as their sisters above (Free/Laws.lean, Shelf42/LK1.lean); vx_outP calls Shelf42/NT130.lean (outThrough). -/
section
variable {l : Launch} {R : Room} {p : Program} {e : Env} {below : List Frame} {s : State} {sargs : Array Value} {y : MethodName} {len W9 : Nat}
theorem vx_backW {ws : List Cond} {rm : Room} {Pc : Array Value → State → Prop} {Qc : Array Value → State → Outcome → State → Prop} {XC : String → State → State → Prop} {mc ms : Nat} {free : Addr → Prop} {bytes : ByteArray} {maxL : Nat} {ret : Option FieldType} {hh : List (Nat × Nat × Nat × Nat)}
    (hM : vx_Met l y ws rm Pc Qc XC mc ms free) (hblind : FrameBlind Pc) (hrc : rm.cells = mc) (hrs : rm.slots = ms)
    (hframes : rm.frames + 1 ≤ R.frames) (hlocals : W9 + (maxL + 11) + rm.locals ≤ R.locals)
    (hws : ∀ w ∈ ws, ∀ a' U, s.WarmedH U.vm → w.before a' U = true) (hcode : Cond.codeWith y bytes maxL ret hh ∈ ws) (hinit : ∀ a' U, s.WarmedH U.vm → (Cond.initialized y.cls).before a' U = true) :
    vx_Back l R p e below s sargs y len W9 (PreOf R mc ms Pc) (PostOf Qc mc ms free) (vx_Post XC mc ms free) := by
  intro m meth c A g ig mk a X hg hsize hdg hW hn hp
  have h1 : (headSpec ws rm).pre.before a A.U = true := atoms_intro fun w hw => hws w hw _ _ X.warmed
  have h2 : (Cond.codeWith y bytes maxL ret hh).before a A.U = true := hws _ hcode _ _ X.warmed
  have h3 : (Cond.initialized y.cls).before a A.U = true := hinit _ _ X.warmed
  have h4 : A.cells + (headSpec ws rm).room.cells ≤ R.cells := by rw [show (headSpec ws rm).room.cells = mc from hrc]; exact hp.1
  have h5 : A.slots + (headSpec ws rm).room.slots ≤ R.slots := by rw [show (headSpec ws rm).room.slots = ms from hrs]; exact hp.2.1
  have hPc : Pc a (A.U.calling g mk a) := hblind _ _ _ _ hp.2.2
  obtain ⟨U, Ls, c0, s0⟩ := A
  dsimp only [Pt.U, Pt.locs, Pt.cells, Pt.slots] at h1 h2 h3 h4 h5 X hn hPc ⊢
  obtain ⟨m9, methY, cY, hn9, hmY, hcY, -, hlY, -⟩ := Cond.codeWith_spec h2
  cases Option.some.inj (hn9.symm.trans hn)
  obtain ⟨kY, hkY, -⟩ := className_of_methodNamed hn
  have hinitY : kY.init = .initialized := Cond.initialized_spec (findClass_of_methodNamed hn) hkY h3
  have h : At U g.method c below := by rw [hg]; exact X.here
  have hlocals9 : W9 + (maxL + 11) + (headSpec ws rm).room.locals ≤ R.locals := hlocals
  have happ : (headSpec ws rm).appliesLoose y e.platform (U.calling g mk a) = true :=
    Spec.appliesLoose_calling (g := g) h hdg hn hkY hinitY
      (X.room_calling (g := g) (R' := (headSpec ws rm).room) hsize hmY hcY hframes (by rw [hlY]; omega) h4 h5) h1
  obtain ⟨mid, hmid⟩ := h.above
  have hfr : (U.setTop g).frames = (.java g :: mid) ++ below := by rw [State.frames_setTop' g h.top, hmid]; rfl
  obtain ⟨o, s₂, hsteps, -, hend, hq⟩ := Steps.callFree hM p X.admits X.cas X.clock (acts := []) hfr happ hPc trivial
  have hq' : vx_Q Qc XC mc ms free a (U.calling g mk a) o s₂ := hq
  rw [State.frames_setTop' g h.top] at hend
  obtain ⟨g₀, hg0⟩ := Option.isSome_iff_exists.mp h.top
  obtain ⟨r, hr⟩ := State.topJava?_eq_some.mp hg0
  have hr' : (({ U with heap := s₂.heap, slotsUsed := s₂.slotsUsed } : State).setVm s₂.vm).frames = .java g₀ :: r := hr
  rcases hq' with ⟨hqc, L, hfe, hL⟩ | ⟨q, rfl, E, ce, L, hx, hce, hcv, hcl, hW₂, hsm, hL⟩
  · obtain ⟨⟨v, rfl⟩, hW₂, e2, q2, q3, q4, q5, q6⟩ := id hfe
    have e3 : s₂ = ({ (U.calling g mk a).setFrames s₂.frames with heap := s₂.heap, slotsUsed := s₂.slotsUsed } : State).setVm s₂.vm := by
      have : s₂ = ({ s₂ with vm := (U.calling g mk a).vm } : State).setVm s₂.vm := rfl
      rw [e2] at this
      exact this
    obtain ⟨c₂, i₂, len₂, hc₂, hd₂, hf₂⟩ := hend
    have hW' : U.WarmedH s₂.vm := hW₂
    have hcc : c₂ = c := by
      have h1 : s₂.code? g.method = U.code? g.method := by
        rw [State.code?_eq, State.code?_eq, hW'.alike.method?]
      exact Option.some.inj (hc₂.symm.trans (h1.trans h.code))
    subst hcc
    have hlen : len₂ = len := by rw [hdg] at hd₂; cases hd₂; rfl
    subst hlen
    have hs₂ : s₂ = (({ U with heap := s₂.heap, slotsUsed := s₂.slotsUsed } : State).setVm s₂.vm).setTop { g with pc := g.pc + len₂, stack := v.toList ++ g.stack } := by
      refine e3.trans ?_
      rw [hf₂, State.calling_eq h.top, State.setFrames_setFrames, State.setTop_of_frames _ hr', hr]
      rfl
    have hsame : U.sameButNew ({ U with heap := s₂.heap, slotsUsed := s₂.slotsUsed } : State) L mc ms := by
      refine ⟨?_, q2, q3, q4, q5, q6⟩
      obtain ⟨t, ht, -⟩ := State.frames_cons hr
      show ({ U with heap := s₂.heap, slotsUsed := s₂.slotsUsed } : State) = { U.setFrames U.frames with heap := s₂.heap, slotsUsed := s₂.slotsUsed }
      rw [State.setFrames_self ht]
    subst hg
    refine Or.inl ⟨v, ⟨(({ U with heap := s₂.heap, slotsUsed := s₂.slotsUsed } : State).setVm s₂.vm), Ls ++ L, c0 + mc, s0 + ms⟩,
      ⟨X.admits, X.cas, X.clock, X.frames, X.room, X.hears, X.method, X.code, (X.here.setHeapUsed s₂.heap s₂.slotsUsed).setVm hW'.alike, X.tail, State.WarmedH.trans X.warmed hW', X.limits, X.bytes, X.same.trans (hsame.setVm s.vm)⟩,
      ⟨g, mk, s₂, L, rfl, rfl, hqc, rfl, hL, rfl, rfl⟩, ?_⟩
    show Steps p.tables e below _ ((({ U with heap := s₂.heap, slotsUsed := s₂.slotsUsed } : State).setVm s₂.vm).setTop { g with pc := g.pc + len₂, stack := v.toList ++ g.stack })
    rw [← hs₂]
    exact hsteps
  · obtain ⟨e2, q2, q3, q4, q5, q6⟩ := id hsm
    have e3 : s₂ = ({ (U.calling g mk a).setFrames s₂.frames with heap := s₂.heap, slotsUsed := s₂.slotsUsed } : State).setVm s₂.vm := by
      have : s₂ = ({ s₂ with vm := (U.calling g mk a).vm } : State).setVm s₂.vm := rfl
      rw [e2] at this
      exact this
    have hf₂ : s₂.frames = .throwing q :: .java g :: U.frames.tail := hend
    have hW' : U.WarmedH s₂.vm := hW₂
    have hs₂ : s₂ = ((({ U with heap := s₂.heap, slotsUsed := s₂.slotsUsed } : State).setVm s₂.vm).setTop g).pushFrame (.throwing q) := by
      refine e3.trans ?_
      rw [hf₂, State.calling_eq h.top, State.setFrames_setFrames, State.pushFrame, State.frames_setTop _ hr', State.setTop_of_frames _ hr', State.setFrames_setFrames, hr]
      rfl
    have hsame : U.sameButNew ({ U with heap := s₂.heap, slotsUsed := s₂.slotsUsed } : State) L mc ms := by
      refine ⟨?_, q2, q3, q4, q5, q6⟩
      obtain ⟨t, ht, -⟩ := State.frames_cons hr
      show ({ U with heap := s₂.heap, slotsUsed := s₂.slotsUsed } : State) = { U.setFrames U.frames with heap := s₂.heap, slotsUsed := s₂.slotsUsed }
      rw [State.setFrames_self ht]
    subst hg
    refine Or.inr ⟨q, ⟨(({ U with heap := s₂.heap, slotsUsed := s₂.slotsUsed } : State).setVm s₂.vm), Ls ++ L, c0 + mc, s0 + ms⟩,
      ⟨X.admits, X.cas, X.clock, X.frames, X.room, X.hears, X.method, X.code, (X.here.setHeapUsed s₂.heap s₂.slotsUsed).setVm hW'.alike, X.tail, State.WarmedH.trans X.warmed hW', X.limits, X.bytes, X.same.trans (hsame.setVm s.vm)⟩,
      ⟨g, mk, s₂, L, E, ce, rfl, rfl, hx, hce, hcv, hcl, rfl, hL, rfl, rfl⟩, ?_⟩
    show Steps p.tables e below _ (((({ U with heap := s₂.heap, slotsUsed := s₂.slotsUsed } : State).setVm s₂.vm).setTop g).pushFrame (.throwing q))
    rw [← hs₂]
    exact hsteps
end
variable {p : Program} {l : Launch} {e : Env} {R : Room} {s : State} {m : MethodId} {args : Array Value} {below : List Frame} {meth : Method} {c : Code} {T : State} {H : Heap} {locs : List Loc} {cells slots : Nat}
theorem vx_callVX (X : Stand p l e R s m args below meth c T locs cells slots) (hexec : p.tables.exec = Jvm.exec) {own C : String} {index : Nat} {y : MethodName} {bytes : ByteArray} {maxL : Nat} {ret : Option FieldType} {hh : List (Nat × Nat × Nat × Nat)}
    (hown : s.vm.findClass own = some m.cls) (hlink : (Cond.methodLink own index y).before args s = true) (hinst : (Cond.instanceMethod y).before args s = true) (hsel : (Cond.selects C y y).before args s = true)
    (hcode : (Cond.codeWith y bytes maxL ret hh).before args s = true) (hy : y.cls ≠ "java/lang/invoke/MethodHandle" ∧ y.cls ≠ "java/lang/invoke/VarHandle")
    {W9 : Nat} {Pre : Pt → Array Value → Prop} {Post : Pt → Array Value → Option Value → Pt → Prop} {PostX : Pt → Array Value → Addr → Pt → Prop} (hK : vx_Back l R p e below s args y 3 W9 Pre Post PostX)
    {b : Addr} {cellB : Cell} (hcell : T.heap[b]? = some cellB) (hobj : cellB.vm.isStatics = false) (hcls : s.vm.findClass C = some cellB.cls)
    {g : JFrame} (hg : g.method = m) (hsize : g.locals.size = c.maxLocals) {argsL rest : List Value} (hlen : ∀ sig, parseMethodDescriptor y.desc = some sig → argsL.length = sig.parameters.length)
    (hstack : g.stack = argsL.reverse ++ .ref b :: rest) (hW : 2 * g.monitorRoom + (rest.map fun v => v.category).sum ≤ W9) (hdg : decode c.code g.pc = .ok (.invokevirtual index, 3))
    (hpre : ∀ vm₁, s.WarmedH vm₁ → Pre ⟨T.setVm vm₁, locs, cells, slots⟩ (Value.ref b :: argsL).toArray) :
    (∃ (v : Option Value) (vm₁ : Vm) (B : Pt), s.WarmedH vm₁ ∧ Stand p l e R s m args below meth c B.U B.locs B.cells B.slots ∧ Post ⟨T.setVm vm₁, locs, cells, slots⟩ (Value.ref b :: argsL).toArray v B ∧
      ∀ target, Steps p.tables e below (B.U.setTop { g with pc := g.pc + 3, stack := v.toList ++ rest }) target → Steps p.tables e below (T.setTop g) target) ∨
    (∃ (q : Addr) (vm₁ : Vm) (B : Pt), s.WarmedH vm₁ ∧ Stand p l e R s m args below meth c B.U B.locs B.cells B.slots ∧ PostX ⟨T.setVm vm₁, locs, cells, slots⟩ (Value.ref b :: argsL).toArray q B ∧
      Steps p.tables e below (T.setTop g) ((B.U.setTop { g with stack := rest }).pushFrame (.throwing q))) := by
  obtain ⟨mk, methM, hnamed, hmethM, hstM, habM⟩ := Cond.instanceMethod_spec hinst
  obtain ⟨m8, methM', cM, hn8, hmethM', -, -, -, -, -, -, hsigM⟩ := Cond.codeWith_spec hcode
  cases Option.some.inj (hn8.symm.trans hnamed)
  cases hmethM.symm.trans hmethM'
  obtain ⟨c2, r2, m2, q1, q2, q3, q4, kP, hkP, hkPi⟩ := Cond.selects_spec hsel
  cases hcls.symm.trans q1
  cases (State.methodFound?_of_named hnamed hy).symm.trans q2
  cases hnamed.symm.trans q3
  have hselP : selectMethod e.platform s.vm cellB.cls mk = .method mk := by rw [Launch.admits_selectMethod X.admits]; exact q4
  obtain ⟨vm₁, X₁, hstep₁⟩ := X.invokevirtual hexec hown hlink hnamed hmethM hstM hkP hkPi hy (a := b) (cell := cellB) hcell
    (fun z h => by rw [h] at hobj; cases hobj) hselP hmethM habM hkP hkPi (g := g) hg (argsL := argsL) (rest := rest) (hlen _ hsigM) hstack hdg
  rcases hK m meth c ⟨T.setVm vm₁, locs, cells, slots⟩ { g with stack := rest } (.invokevirtual index) mk (Value.ref b :: argsL).toArray X₁ hg hsize hdg hW (X₁.named hnamed) (hpre vm₁ X₁.warmed) with ⟨v, B, X', hpost, hsteps⟩ | ⟨q, B, X', hpost, hsteps⟩
  · exact Or.inl ⟨v, vm₁, B, X₁.warmed, X', hpost, fun target h => hstep₁ _ fun acts => by rw [doInvoke_state]; exact hsteps.trans h⟩
  · exact Or.inr ⟨q, vm₁, B, X₁.warmed, X', hpost, hstep₁ _ fun acts => by rw [doInvoke_state]; exact hsteps⟩
theorem vx_callSX (X : Stand p l e R s m args below meth c T locs cells slots) (hexec : p.tables.exec = Jvm.exec) {own : String} {index : Nat} {y : MethodName} {bytes : ByteArray} {maxL : Nat} {ret : Option FieldType} {hh : List (Nat × Nat × Nat × Nat)}
    (hown : s.vm.findClass own = some m.cls) (hlink : (Cond.methodLink own index y).before args s = true) (hstat : (Cond.static y).before args s = true) (hinit : (Cond.initialized y.cls).before args s = true)
    (hcode : (Cond.codeWith y bytes maxL ret hh).before args s = true) (hy : y.cls ≠ "java/lang/invoke/MethodHandle" ∧ y.cls ≠ "java/lang/invoke/VarHandle")
    {W9 : Nat} {Pre : Pt → Array Value → Prop} {Post : Pt → Array Value → Option Value → Pt → Prop} {PostX : Pt → Array Value → Addr → Pt → Prop} (hK : vx_Back l R p e below s args y 3 W9 Pre Post PostX)
    {g : JFrame} (hg : g.method = m) (hsize : g.locals.size = c.maxLocals) {argsL rest : List Value} (hlen : ∀ sig, parseMethodDescriptor y.desc = some sig → argsL.length = sig.parameters.length)
    (hstack : g.stack = argsL.reverse ++ rest) (hW : 2 * g.monitorRoom + (rest.map fun v => v.category).sum ≤ W9) (hdg : decode c.code g.pc = .ok (.invokestatic index, 3))
    (hpre : ∀ vm₁, s.WarmedH vm₁ → Pre ⟨T.setVm vm₁, locs, cells, slots⟩ argsL.toArray) :
    (∃ (v : Option Value) (vm₁ : Vm) (B : Pt), s.WarmedH vm₁ ∧ Stand p l e R s m args below meth c B.U B.locs B.cells B.slots ∧ Post ⟨T.setVm vm₁, locs, cells, slots⟩ argsL.toArray v B ∧
      ∀ target, Steps p.tables e below (B.U.setTop { g with pc := g.pc + 3, stack := v.toList ++ rest }) target → Steps p.tables e below (T.setTop g) target) ∨
    (∃ (q : Addr) (vm₁ : Vm) (B : Pt), s.WarmedH vm₁ ∧ Stand p l e R s m args below meth c B.U B.locs B.cells B.slots ∧ PostX ⟨T.setVm vm₁, locs, cells, slots⟩ argsL.toArray q B ∧
      Steps p.tables e below (T.setTop g) ((B.U.setTop { g with stack := rest }).pushFrame (.throwing q))) := by
  obtain ⟨mk, methM, cM, hnamed, hmethM, -, -, -, -, -, -, hsigM⟩ := Cond.codeWith_spec hcode
  have hstatic : methM.isStatic = true := Cond.static_spec hnamed hmethM hstat
  obtain ⟨kP, hkP, -⟩ := className_of_methodNamed hnamed
  have hinitP : kP.init = .initialized := Cond.initialized_spec (findClass_of_methodNamed hnamed) hkP hinit
  obtain ⟨vm₁, X₁, hstep₁⟩ := X.invokestatic hexec hown hlink hnamed hmethM hstatic hkP hinitP hy (g := g) hg (argsL := argsL) (rest := rest) (hlen _ hsigM) hstack hdg
  rcases hK m meth c ⟨T.setVm vm₁, locs, cells, slots⟩ { g with stack := rest } (.invokestatic index) mk argsL.toArray X₁ hg hsize hdg hW (X₁.named hnamed) (hpre vm₁ X₁.warmed) with ⟨v, B, X', hpost, hsteps⟩ | ⟨q, B, X', hpost, hsteps⟩
  · exact Or.inl ⟨v, vm₁, B, X₁.warmed, X', hpost, fun target h => hstep₁ _ fun acts => by rw [doInvoke_state]; exact hsteps.trans h⟩
  · exact Or.inr ⟨q, vm₁, B, X₁.warmed, X', hpost, hstep₁ _ fun acts => by rw [doInvoke_state]; exact hsteps⟩
theorem vx_callVW (X : Stand p l e R s m args below meth c T locs cells slots) (hexec : p.tables.exec = Jvm.exec) {own C : String} {index : Nat} {y : MethodName} {bytes : ByteArray} {maxL : Nat} {ret : Option FieldType} {hh : List (Nat × Nat × Nat × Nat)}
    (hown : s.vm.findClass own = some m.cls) (hlink : (Cond.methodLink own index y).before args s = true) (hinst : (Cond.instanceMethod y).before args s = true) (hsel : (Cond.selects C y y).before args s = true)
    (hcode : (Cond.codeWith y bytes maxL ret hh).before args s = true) (hy : y.cls ≠ "java/lang/invoke/MethodHandle" ∧ y.cls ≠ "java/lang/invoke/VarHandle")
    {W9 : Nat} {Pre : Pt → Array Value → Prop} {Post : Pt → Array Value → Option Value → Pt → Prop} (hK : Back l R p e below s args y 3 W9 Pre Post)
    {b : Addr} {cellB : Cell} (hcell : T.heap[b]? = some cellB) (hobj : cellB.vm.isStatics = false) (hcls : s.vm.findClass C = some cellB.cls)
    {g : JFrame} (hg : g.method = m) (hsize : g.locals.size = c.maxLocals) {argsL rest : List Value} (hlen : ∀ sig, parseMethodDescriptor y.desc = some sig → argsL.length = sig.parameters.length)
    (hstack : g.stack = argsL.reverse ++ .ref b :: rest) (hW : 2 * g.monitorRoom + (rest.map fun v => v.category).sum ≤ W9) (hdg : decode c.code g.pc = .ok (.invokevirtual index, 3))
    (hpre : ∀ vm₁, s.WarmedH vm₁ → Pre ⟨T.setVm vm₁, locs, cells, slots⟩ (Value.ref b :: argsL).toArray) :
    ∃ (v : Option Value) (vm₁ : Vm) (B : Pt), s.WarmedH vm₁ ∧ Stand p l e R s m args below meth c B.U B.locs B.cells B.slots ∧ Post ⟨T.setVm vm₁, locs, cells, slots⟩ (Value.ref b :: argsL).toArray v B ∧
      ∀ target, Steps p.tables e below (B.U.setTop { g with pc := g.pc + 3, stack := v.toList ++ rest }) target → Steps p.tables e below (T.setTop g) target := by
  obtain ⟨mk, methM, hnamed, hmethM, hstM, habM⟩ := Cond.instanceMethod_spec hinst
  obtain ⟨m8, methM', cM, hn8, hmethM', -, -, -, -, -, -, hsigM⟩ := Cond.codeWith_spec hcode
  cases Option.some.inj (hn8.symm.trans hnamed)
  cases hmethM.symm.trans hmethM'
  obtain ⟨c2, r2, m2, q1, q2, q3, q4, kP, hkP, hkPi⟩ := Cond.selects_spec hsel
  cases hcls.symm.trans q1
  cases (State.methodFound?_of_named hnamed hy).symm.trans q2
  cases hnamed.symm.trans q3
  have hselP : selectMethod e.platform s.vm cellB.cls mk = .method mk := by rw [Launch.admits_selectMethod X.admits]; exact q4
  obtain ⟨vm₁, X₁, hstep₁⟩ := X.invokevirtual hexec hown hlink hnamed hmethM hstM hkP hkPi hy (a := b) (cell := cellB) hcell
    (fun z h => by rw [h] at hobj; cases hobj) hselP hmethM habM hkP hkPi (g := g) hg (argsL := argsL) (rest := rest) (hlen _ hsigM) hstack hdg
  obtain ⟨v, B, X', hpost, hsteps⟩ := hK m meth c ⟨T.setVm vm₁, locs, cells, slots⟩ { g with stack := rest } (.invokevirtual index) mk (Value.ref b :: argsL).toArray X₁ hg hsize hdg hW (X₁.named hnamed) (hpre vm₁ X₁.warmed)
  exact ⟨v, vm₁, B, X₁.warmed, X', hpost, fun target h => hstep₁ _ fun acts => by rw [doInvoke_state]; exact hsteps.trans h⟩
abbrev vx_CVW (R : Room) (s : State) (args : Array Value) (own C : String) (index : Nat) (y : MethodName) (bytes : ByteArray) (maxL : Nat) (ret : Option FieldType) (hh : List (Nat × Nat × Nat × Nat)) (ws : List Cond) (rm : Room) (mc ms n : Nat) : Prop :=
  (rm.cells = mc ∧ rm.slots = ms ∧ rm.frames + 1 ≤ R.frames ∧ 8 + (maxL + 11) + rm.locals ≤ R.locals ∧ (∀ w ∈ ws, ∀ (a' : Array Value) (U : State), s.WarmedH U.vm → w.before a' U = true) ∧ Cond.codeWith y bytes maxL ret hh ∈ ws) ∧
  (Cond.codeWith y bytes maxL ret hh).before args s = true ∧ (Cond.initialized y.cls).before args s = true ∧ (y.cls ≠ "java/lang/invoke/MethodHandle" ∧ y.cls ≠ "java/lang/invoke/VarHandle") ∧
  (∀ sig, parseMethodDescriptor y.desc = some sig → n = sig.parameters.length) ∧ (Cond.methodLink own index y).before args s = true ∧ (Cond.instanceMethod y).before args s = true ∧ (Cond.selects C y y).before args s = true
theorem vx_cwVW {own C : String} {index maxL mc ms : Nat} {y : MethodName} {bytes : ByteArray} {ret : Option FieldType} {hh : List (Nat × Nat × Nat × Nat)} {Ts ws ws' : List Cond} {rm : Room} (n : Nat) (ht : ∀ w ∈ Ts, w.before args s = true) (hT : GoodIn Ts (wsV own index C y ws)) (hw : ws = Cond.codeWith y bytes maxL ret hh :: ws') (hrc : rm.cells = mc) (hrs : rm.slots = ms)
    (hd : y.cls = C ∧ y.cls ≠ "java/lang/invoke/MethodHandle" ∧ y.cls ≠ "java/lang/invoke/VarHandle" ∧ (parseMethodDescriptor y.desc).map (fun d => d.parameters.length) = some n) (hR : rm.frames + 1 ≤ R.frames ∧ 8 + (maxL + 11) + rm.locals ≤ R.locals) :
    vx_CVW R s args own C index y bytes maxL ret hh ws rm mc ms n := by
  obtain ⟨hC, hd⟩ := hd
  subst hC
  have ok : ∀ w ∈ wsV own index y.cls y ws, w.before args s = true := fun w h => ht w (hT w h).1
  have hG : GoodIn Ts ws := fun w h => hT w (by unfold wsV; exact List.mem_append_right _ h)
  have hc : Cond.codeWith y bytes maxL ret hh ∈ ws := by rw [hw]; exact List.mem_cons_self
  refine ⟨⟨hrc, hrs, hR.1, hR.2, pay_in ht hG, hc⟩, ht _ (hG _ hc).1, ok _ (by simp [wsV]), ⟨hd.1, hd.2.1⟩, fun sig h => ?_, ok _ (by simp [wsV]), ok _ (by simp [wsV]), ok _ (by simp [wsV])⟩
  have h2 := hd.2.2
  rw [h] at h2
  exact (Option.some.inj h2).symm
theorem vx_runVW {y : MethodName} {bytes cc : ByteArray} {maxL nL mc ms n index : Nat} {ret : Option FieldType} {hh : List (Nat × Nat × Nat × Nat)} {ws : List Cond} {rm : Room} {Pc : Array Value → State → Prop} {Qc : Array Value → State → Outcome → State → Prop} {free : Addr → Prop} {Ts : List Cond} {own C : String} {b : Addr} {As rest : List Value} {g : JFrame}
    (S : CallFix p m c cc nL s args Ts own) (hM : Met l y ws rm Pc Qc mc ms free) (cw : vx_CVW R s args own C index y bytes maxL ret hh ws rm mc ms n) (hp : PreV s H C b Pc As)
    (hg : g.method = m) (hn : As.length = n) (hsize : g.locals.size = nL) (hstack : g.stack = As.reverse ++ .ref b :: rest) (hW : 2 * g.monitorRoom + (rest.map fun v => v.category).sum ≤ 8) (hdg : decode cc g.pc = .ok (.invokevirtual index, 3)) (hf : cells + mc ≤ R.cells ∧ slots + ms ≤ R.slots) :
    va_Run p l e R s m args below meth c H locs cells slots mc ms g rest (Qc (Value.ref b :: As).toArray) free := by
  obtain ⟨⟨hrc, hrs, hfr, hlo, hws, hcw⟩, hcode, hini, hy, hlen, hl, hin, hse⟩ := cw
  have hK : Back l R p e below s args y 3 8 (PreOf R mc ms Pc) (PostOf Qc mc ms free) := va_backW (hh := hh) (bytes := bytes) (maxL := maxL) (ret := ret) hM hp.1 hrc hrs hfr hlo hws hcw (fun a' U hW => word_at hW (Or.inl (by first | rfl | simp [Cond.onTables, Cond.keeps, Cond.steady])) hini)
  obtain ⟨hx, hb, hml, ho, -⟩ := S
  obtain ⟨-, ⟨cellB, hcB, hoB, hclB⟩, hPc⟩ := hp
  intro T hT X
  obtain ⟨v, vm₁, ⟨U', l2, c2, s2⟩, hW₁, X', ⟨g', mk, t, L, e1, e2, hq, h1, hL, h2, h3⟩, st⟩ := vx_callVW X hx (C := C) (hh := hh) (bytes := bytes) (maxL := maxL) (ret := ret) ho hl hin hse hcode hy hK (by rw [hT]; exact hcB) hoB hclB hg (hsize.trans hml.symm) (argsL := As) (rest := rest) (fun sig h => hn.trans (hlen sig h)) hstack hW (by rw [hb]; exact hdg)
    (fun vm₁ hW₁ => ⟨hf.1, hf.2, hPc (T.setVm vm₁) hT hW₁⟩)
  dsimp only [Pt.U, Pt.locs, Pt.cells, Pt.slots] at X' e1 e2 h1 h2 h3 st
  subst h1; subst h2; subst h3
  exact ⟨v, (T.setVm vm₁).calling g' mk (Value.ref b :: As).toArray, t, U', L, hT, X', hL, e1, e2, hq, st⟩
section
variable {y : MethodName} {bytes cc : ByteArray} {maxL nL mc ms n index : Nat} {ret : Option FieldType} {ws : List Cond} {rm : Room} {Pc : Array Value → State → Prop} {Qc : Array Value → State → Outcome → State → Prop} {XC : String → State → State → Prop} {free : Addr → Prop} {Ts : List Cond} {own C : String} {b : Addr} {As rest : List Value} {g : JFrame}
theorem vx_runVX {hh : List (Nat × Nat × Nat × Nat)} (S : CallFix p m c cc nL s args Ts own) (hM : vx_Met l y ws rm Pc Qc XC mc ms free) (cw : vx_CVW R s args own C index y bytes maxL ret hh ws rm mc ms n) (hp : PreV s H C b Pc As)
    (hg : g.method = m) (hn : As.length = n) (hsize : g.locals.size = nL) (hstack : g.stack = As.reverse ++ .ref b :: rest) (hW : 2 * g.monitorRoom + (rest.map fun v => v.category).sum ≤ 8) (hdg : decode cc g.pc = .ok (.invokevirtual index, 3)) (hf : cells + mc ≤ R.cells ∧ slots + ms ≤ R.slots) :
    vx_Run p l e R s m args below meth c H locs cells slots mc ms g rest (Qc (Value.ref b :: As).toArray) XC free := by
  obtain ⟨⟨hrc, hrs, hfr, hlo, hws, hcw⟩, hcode, hini, hy, hlen, hl, hin, hse⟩ := cw
  have hK : vx_Back l R p e below s args y 3 8 (PreOf R mc ms Pc) (PostOf Qc mc ms free) (vx_Post XC mc ms free) := vx_backW (hh := hh) (bytes := bytes) (maxL := maxL) (ret := ret) hM hp.1 hrc hrs hfr hlo hws hcw (fun a' U hW => word_at hW (Or.inl (by first | rfl | simp [Cond.onTables, Cond.keeps, Cond.steady])) hini)
  obtain ⟨hx, hb, hml, ho, -⟩ := S
  obtain ⟨-, ⟨cellB, hcB, hoB, hclB⟩, hPc⟩ := hp
  intro T hT X
  rcases vx_callVX X hx (C := C) (hh := hh) (bytes := bytes) (maxL := maxL) (ret := ret) ho hl hin hse hcode hy hK (by rw [hT]; exact hcB) hoB hclB hg (hsize.trans hml.symm) (argsL := As) (rest := rest) (fun sig h => hn.trans (hlen sig h)) hstack hW (by rw [hb]; exact hdg)
    (fun vm₁ hW₁ => ⟨hf.1, hf.2, hPc (T.setVm vm₁) hT hW₁⟩) with ⟨v, vm₁, ⟨U', l2, c2, s2⟩, hW₁, X', ⟨g', mk, t, L, e1, e2, hq, h1, hL, h2, h3⟩, st⟩ | ⟨q, vm₁, ⟨U', l2, c2, s2⟩, hW₁, X', ⟨g', mk, t, L, E, ce, e1, e2, hq, hce, hcv, hcl, h1, hL, h2, h3⟩, st⟩
  · dsimp only [Pt.U, Pt.locs, Pt.cells, Pt.slots] at X' e1 e2 h1 h2 h3 st
    subst h1; subst h2; subst h3
    exact Or.inl ⟨v, (T.setVm vm₁).calling g' mk (Value.ref b :: As).toArray, t, U', L, hT, X', hL, e1, e2, hq, st⟩
  · dsimp only [Pt.U, Pt.locs, Pt.cells, Pt.slots] at X' e1 e2 h1 h2 h3 st hcl
    subst h1; subst h2; subst h3
    exact Or.inr ⟨q, (T.setVm vm₁).calling g' mk (Value.ref b :: As).toArray, t, U', L, E, ce, hT, X', hL, e1, e2, hq, hce, hcv, vx_cls hW₁ hcl, st⟩
theorem vx_runSX {hh : List (Nat × Nat × Nat × Nat)} (S : CallFix p m c cc nL s args Ts own) (hM : vx_Met l y ws rm Pc Qc XC mc ms free) (cw : vx_CSW R s args own index y bytes maxL ret hh ws rm mc ms n) (hp : PreS s H Pc As)
    (hg : g.method = m) (hn : As.length = n) (hsize : g.locals.size = nL) (hstack : g.stack = As.reverse ++ rest) (hW : 2 * g.monitorRoom + (rest.map fun v => v.category).sum ≤ 8) (hdg : decode cc g.pc = .ok (.invokestatic index, 3)) (hf : cells + mc ≤ R.cells ∧ slots + ms ≤ R.slots) :
    vx_Run p l e R s m args below meth c H locs cells slots mc ms g rest (Qc As.toArray) XC free := by
  obtain ⟨⟨hrc, hrs, hfr, hlo, hws, hcw⟩, hcode, hini, hy, hlen, hl, hstt⟩ := cw
  have hK : vx_Back l R p e below s args y 3 8 (PreOf R mc ms Pc) (PostOf Qc mc ms free) (vx_Post XC mc ms free) := vx_backW (hh := hh) (bytes := bytes) (maxL := maxL) (ret := ret) hM hp.1 hrc hrs hfr hlo hws hcw (fun a' U hW => word_at hW (Or.inl (by first | rfl | simp [Cond.onTables, Cond.keeps, Cond.steady])) hini)
  obtain ⟨hx, hb, hml, ho, -⟩ := S
  intro T hT X
  rcases vx_callSX X hx (hh := hh) (bytes := bytes) (maxL := maxL) (ret := ret) ho hl hstt hini hcode hy hK hg (hsize.trans hml.symm) (argsL := As) (rest := rest) (fun sig h => hn.trans (hlen sig h)) hstack hW (by rw [hb]; exact hdg)
    (fun vm₁ hW₁ => ⟨hf.1, hf.2, hp.2 (T.setVm vm₁) hT hW₁⟩) with ⟨v, vm₁, ⟨U', l2, c2, s2⟩, hW₁, X', ⟨g', mk, t, L, e1, e2, hq, h1, hL, h2, h3⟩, st⟩ | ⟨q, vm₁, ⟨U', l2, c2, s2⟩, hW₁, X', ⟨g', mk, t, L, E, ce, e1, e2, hq, hce, hcv, hcl, h1, hL, h2, h3⟩, st⟩
  · dsimp only [Pt.U, Pt.locs, Pt.cells, Pt.slots] at X' e1 e2 h1 h2 h3 st
    subst h1; subst h2; subst h3
    exact Or.inl ⟨v, (T.setVm vm₁).calling g' mk As.toArray, t, U', L, hT, X', hL, e1, e2, hq, st⟩
  · dsimp only [Pt.U, Pt.locs, Pt.cells, Pt.slots] at X' e1 e2 h1 h2 h3 st hcl
    subst h1; subst h2; subst h3
    exact Or.inr ⟨q, (T.setVm vm₁).calling g' mk As.toArray, t, U', L, E, ce, hT, X', hL, e1, e2, hq, hce, hcv, vx_cls hW₁ hcl, st⟩
end
end VXH
theorem vx_ofWH {l : Launch} {y : MethodName} {ws ws' : List Cond} {rm : Room} {Pc : Array Value → State → Prop} {Qc : Array Value → State → Outcome → State → Prop} {XC : String → State → State → Prop} {mc ms : Nat} {free : Addr → Prop} {cc : ByteArray} {maxL : Nat} {ret : Option FieldType} {hh : List (Nat × Nat × Nat × Nat)}
    (hy : plainName y.cls = true) (hw : ws = Cond.codeWith y cc maxL ret hh :: ws')
    (body : ∀ p e s m args below meth c s₁, BodyLoose p l y (headSpec ws rm) cc maxL ret e s m args below meth c s₁ → c.maxLocals = maxL → Pc args s →
      W p l e (headSpec ws rm).room s m args below meth c s.heap [] 0 0 (vx_MQ below Qc XC args s mc ms free) (entryFrame m args maxL)) : vx_Met l y ws rm Pc Qc XC mc ms free := by
  refine MetFree.of_bodyS (code := cc) (maxLocals := maxL) (ret := ret) hy ?_ ?_
  · intro args s m h hn
    obtain ⟨m9, meth, c, hn9, h1, h2, h3, h4, -, h5, h6, -⟩ := Cond.codeWith_spec (atoms_spec (ws := ws) h _ (by rw [hw]; exact List.mem_cons_self))
    cases hn.symm.trans hn9
    exact ⟨meth, c, h1, h2, h3, h4, h5, h6⟩
  · intro p e s m args below meth c s₁ B hml hP _
    have hh0 : s₁.heap = s.heap := by rw [B.state]; rfl
    obtain ⟨t, a1, o, b1, b2, b3⟩ := body p e s m args below meth c s₁ B hml hP s₁ hh0 (Stand.of_body B)
    exact ⟨t, o, a1, b1, b2, b3⟩
/-! ===== END ===== -/
end
section
/-! the words of the tables, by their places (a row each) -/
theorem tw_of {w : Cond} (i : Nat) (h : tables_1[i]? = some w) : w ∈ lw_tbl := List.mem_append_right _ (List.mem_of_getElem? h)
theorem tw_0 : (Jvm.Cond.initialized "PersonSeedsLaw") ∈ lw_tbl := tw_of 0 (by decide +kernel)
theorem tw_1 : (Jvm.Cond.initialized "PersonSeeds") ∈ lw_tbl := tw_of 1 (by decide +kernel)
theorem tw_2 : (Jvm.Cond.initialized "PersonSeeds$Rooms") ∈ lw_tbl := tw_of 2 (by decide +kernel)
theorem tw_3 : (Jvm.Cond.initialized "PersonSeeds$Doors") ∈ lw_tbl := tw_of 3 (by decide +kernel)
theorem tw_4 : (Jvm.Cond.initialized "java/util/Arrays") ∈ lw_tbl := tw_of 4 (by decide +kernel)
theorem tw_5 : (Jvm.Cond.initialized "PersonSeeds$Trails") ∈ lw_tbl := tw_of 5 (by decide +kernel)
theorem tw_6 : (Jvm.Cond.initialized "PersonSeeds$Persons") ∈ lw_tbl := tw_of 6 (by decide +kernel)
theorem tw_7 : (Jvm.Cond.initialized "PersonSeedsModel") ∈ lw_tbl := tw_of 7 (by decide +kernel)
theorem tw_8 : (Jvm.Cond.initialized "java/lang/Throwable") ∈ lw_tbl := tw_of 8 (by decide +kernel)
theorem tw_9 : (Jvm.Cond.initialized "java/lang/Exception") ∈ lw_tbl := tw_of 9 (by decide +kernel)
theorem tw_10 : (Jvm.Cond.initialized "java/lang/RuntimeException") ∈ lw_tbl := tw_of 10 (by decide +kernel)
theorem tw_11 : (Jvm.Cond.initialized "java/lang/IllegalArgumentException") ∈ lw_tbl := tw_of 11 (by decide +kernel)
theorem tw_12 : (Jvm.Cond.initialized "java/lang/IllegalStateException") ∈ lw_tbl := tw_of 12 (by decide +kernel)
theorem tw_13 : (Jvm.Cond.initialized "java/lang/Math") ∈ lw_tbl := tw_of 13 (by decide +kernel)
theorem tw_14 : (Jvm.Cond.classLink "PersonSeedsLaw" (8 : Nat) "PersonSeeds") ∈ lw_tbl := tw_of 14 (by decide +kernel)
theorem tw_15 : (Jvm.Cond.instantiable "PersonSeeds" (7 : Nat)) ∈ lw_tbl := tw_of 15 (by decide +kernel)
theorem tw_16 : (Jvm.Cond.methodLink "PersonSeedsLaw" (65 : Nat) ({ cls := "PersonSeeds", name := "<init>", desc := "(J)V" } : Jvm.MethodName)) ∈ lw_tbl := tw_of 16 (by decide +kernel)
theorem tw_17 : (Jvm.Cond.instanceMethod ({ cls := "PersonSeeds", name := "<init>", desc := "(J)V" } : Jvm.MethodName)) ∈ lw_tbl := tw_of 17 (by decide +kernel)
theorem tw_18 : (Jvm.Cond.code ({ cls := "PersonSeeds", name := "<init>", desc := "(J)V" } : Jvm.MethodName) prog_1_method_1_code (3 : Nat) (Option.none : Option Jvm.ClassFile.FieldType)) ∈ lw_tbl := tw_of 18 (by decide +kernel)
theorem tw_19 : (Jvm.Cond.methodLink "PersonSeeds" (1 : Nat) ({ cls := "java/lang/Object", name := "<init>", desc := "()V" } : Jvm.MethodName)) ∈ lw_tbl := tw_of 19 (by decide +kernel)
theorem tw_20 : (Jvm.Cond.instanceMethod ({ cls := "java/lang/Object", name := "<init>", desc := "()V" } : Jvm.MethodName)) ∈ lw_tbl := tw_of 20 (by decide +kernel)
theorem tw_21 : (Jvm.Cond.code ({ cls := "java/lang/Object", name := "<init>", desc := "()V" } : Jvm.MethodName) object_method_1_code (1 : Nat) (Option.none : Option Jvm.ClassFile.FieldType)) ∈ lw_tbl := tw_of 21 (by decide +kernel)
theorem tw_22 : (Jvm.Cond.classLink "PersonSeeds" (7 : Nat) "PersonSeeds$Rooms") ∈ lw_tbl := tw_of 22 (by decide +kernel)
theorem tw_23 : (Jvm.Cond.instantiable "PersonSeeds$Rooms" (5 : Nat)) ∈ lw_tbl := tw_of 23 (by decide +kernel)
theorem tw_24 : (Jvm.Cond.methodLinkNest "PersonSeeds" (9 : Nat) ({ cls := "PersonSeeds$Rooms", name := "<init>", desc := "()V" } : Jvm.MethodName) "PersonSeeds") ∈ lw_tbl := tw_of 24 (by decide +kernel)
theorem tw_25 : (Jvm.Cond.instanceMethod ({ cls := "PersonSeeds$Rooms", name := "<init>", desc := "()V" } : Jvm.MethodName)) ∈ lw_tbl := tw_of 25 (by decide +kernel)
theorem tw_26 : (Jvm.Cond.code ({ cls := "PersonSeeds$Rooms", name := "<init>", desc := "()V" } : Jvm.MethodName) prog_4_method_1_code (1 : Nat) (Option.none : Option Jvm.ClassFile.FieldType)) ∈ lw_tbl := tw_of 26 (by decide +kernel)
theorem tw_27 : (Jvm.Cond.methodLink "PersonSeeds$Rooms" (3 : Nat) ({ cls := "java/lang/Object", name := "<init>", desc := "()V" } : Jvm.MethodName)) ∈ lw_tbl := tw_of 27 (by decide +kernel)
theorem tw_28 : (Jvm.Cond.fieldLink "PersonSeeds$Rooms" (24 : Nat) "PersonSeeds$Rooms" "count" "I") ∈ lw_tbl := tw_of 28 (by decide +kernel)
theorem tw_29 : (Jvm.Cond.fieldLinkNest "PersonSeeds" (47 : Nat) "PersonSeeds$Rooms" "count" "I" "PersonSeeds") ∈ lw_tbl := tw_of 29 (by decide +kernel)
theorem tw_30 : (Jvm.Cond.fieldLink "PersonSeeds$Rooms" (9 : Nat) "PersonSeeds$Rooms" "cells" "[I") ∈ lw_tbl := tw_of 30 (by decide +kernel)
theorem tw_31 : (Jvm.Cond.fieldLink "PersonSeeds$Rooms" (15 : Nat) "PersonSeeds$Rooms" "inside" "[I") ∈ lw_tbl := tw_of 31 (by decide +kernel)
theorem tw_32 : (Jvm.Cond.fieldLinkNest "PersonSeeds" (124 : Nat) "PersonSeeds$Rooms" "inside" "[I" "PersonSeeds") ∈ lw_tbl := tw_of 32 (by decide +kernel)
theorem tw_33 : (Jvm.Cond.fieldLink "PersonSeeds$Rooms" (18 : Nat) "PersonSeeds$Rooms" "most" "[I") ∈ lw_tbl := tw_of 33 (by decide +kernel)
theorem tw_34 : (Jvm.Cond.fieldLinkNest "PersonSeeds" (127 : Nat) "PersonSeeds$Rooms" "most" "[I" "PersonSeeds") ∈ lw_tbl := tw_of 34 (by decide +kernel)
theorem tw_35 : (Jvm.Cond.fieldLink "PersonSeeds$Rooms" (21 : Nat) "PersonSeeds$Rooms" "fullEnds" "[I") ∈ lw_tbl := tw_of 35 (by decide +kernel)
theorem tw_36 : (Jvm.Cond.fieldLinkNest "PersonSeeds" (130 : Nat) "PersonSeeds$Rooms" "fullEnds" "[I" "PersonSeeds") ∈ lw_tbl := tw_of 36 (by decide +kernel)
theorem tw_37 : (Jvm.Cond.lays "PersonSeeds$Rooms" "PersonSeeds$Rooms" "count" "I") ∈ lw_tbl := tw_of 37 (by decide +kernel)
theorem tw_38 : (Jvm.Cond.soleField "PersonSeeds$Rooms" "count") ∈ lw_tbl := tw_of 38 (by decide +kernel)
theorem tw_39 : (Jvm.Cond.laysFinal "PersonSeeds$Rooms" "PersonSeeds$Rooms" "cells" "[I") ∈ lw_tbl := tw_of 39 (by decide +kernel)
theorem tw_40 : (Jvm.Cond.soleField "PersonSeeds$Rooms" "cells") ∈ lw_tbl := tw_of 40 (by decide +kernel)
theorem tw_41 : (Jvm.Cond.laysFinal "PersonSeeds$Rooms" "PersonSeeds$Rooms" "inside" "[I") ∈ lw_tbl := tw_of 41 (by decide +kernel)
theorem tw_42 : (Jvm.Cond.soleField "PersonSeeds$Rooms" "inside") ∈ lw_tbl := tw_of 42 (by decide +kernel)
theorem tw_43 : (Jvm.Cond.laysFinal "PersonSeeds$Rooms" "PersonSeeds$Rooms" "most" "[I") ∈ lw_tbl := tw_of 43 (by decide +kernel)
theorem tw_44 : (Jvm.Cond.soleField "PersonSeeds$Rooms" "most") ∈ lw_tbl := tw_of 44 (by decide +kernel)
theorem tw_45 : (Jvm.Cond.laysFinal "PersonSeeds$Rooms" "PersonSeeds$Rooms" "fullEnds" "[I") ∈ lw_tbl := tw_of 45 (by decide +kernel)
theorem tw_46 : (Jvm.Cond.soleField "PersonSeeds$Rooms" "fullEnds") ∈ lw_tbl := tw_of 46 (by decide +kernel)
theorem tw_47 : (Jvm.Cond.superclass "PersonSeeds$Rooms" "java/lang/Object") ∈ lw_tbl := tw_of 47 (by decide +kernel)
theorem tw_48 : (Jvm.Cond.arrayClass Jvm.ClassFile.FieldType.int) ∈ lw_tbl := tw_of 48 (by decide +kernel)
theorem tw_49 : (Jvm.Cond.classLink "PersonSeeds" (16 : Nat) "PersonSeeds$Doors") ∈ lw_tbl := tw_of 49 (by decide +kernel)
theorem tw_50 : (Jvm.Cond.instantiable "PersonSeeds$Doors" (8 : Nat)) ∈ lw_tbl := tw_of 50 (by decide +kernel)
theorem tw_51 : (Jvm.Cond.methodLinkNest "PersonSeeds" (18 : Nat) ({ cls := "PersonSeeds$Doors", name := "<init>", desc := "()V" } : Jvm.MethodName) "PersonSeeds") ∈ lw_tbl := tw_of 51 (by decide +kernel)
theorem tw_52 : (Jvm.Cond.instanceMethod ({ cls := "PersonSeeds$Doors", name := "<init>", desc := "()V" } : Jvm.MethodName)) ∈ lw_tbl := tw_of 52 (by decide +kernel)
theorem tw_53 : (Jvm.Cond.code ({ cls := "PersonSeeds$Doors", name := "<init>", desc := "()V" } : Jvm.MethodName) prog_2_method_1_code (2 : Nat) (Option.none : Option Jvm.ClassFile.FieldType)) ∈ lw_tbl := tw_of 53 (by decide +kernel)
theorem tw_54 : (Jvm.Cond.methodLink "PersonSeeds$Doors" (3 : Nat) ({ cls := "java/lang/Object", name := "<init>", desc := "()V" } : Jvm.MethodName)) ∈ lw_tbl := tw_of 54 (by decide +kernel)
theorem tw_55 : (Jvm.Cond.methodLink "PersonSeeds$Doors" (33 : Nat) ({ cls := "java/util/Arrays", name := "fill", desc := "([II)V" } : Jvm.MethodName)) ∈ lw_tbl := tw_of 55 (by decide +kernel)
theorem tw_56 : (Jvm.Cond.static ({ cls := "java/util/Arrays", name := "fill", desc := "([II)V" } : Jvm.MethodName)) ∈ lw_tbl := tw_of 56 (by decide +kernel)
theorem tw_57 : (Jvm.Cond.code ({ cls := "java/util/Arrays", name := "fill", desc := "([II)V" } : Jvm.MethodName) prog_15_method_103_code (4 : Nat) (Option.none : Option Jvm.ClassFile.FieldType)) ∈ lw_tbl := tw_of 57 (by decide +kernel)
theorem tw_58 : (Jvm.Cond.fieldLink "PersonSeeds$Doors" (39 : Nat) "PersonSeeds$Doors" "count" "I") ∈ lw_tbl := tw_of 58 (by decide +kernel)
theorem tw_59 : (Jvm.Cond.fieldLinkNest "PersonSeeds" (69 : Nat) "PersonSeeds$Doors" "count" "I" "PersonSeeds") ∈ lw_tbl := tw_of 59 (by decide +kernel)
theorem tw_60 : (Jvm.Cond.fieldLink "PersonSeeds$Doors" (9 : Nat) "PersonSeeds$Doors" "near" "[I") ∈ lw_tbl := tw_of 60 (by decide +kernel)
theorem tw_61 : (Jvm.Cond.fieldLink "PersonSeeds$Doors" (15 : Nat) "PersonSeeds$Doors" "far" "[I") ∈ lw_tbl := tw_of 61 (by decide +kernel)
theorem tw_62 : (Jvm.Cond.fieldLink "PersonSeeds$Doors" (18 : Nat) "PersonSeeds$Doors" "width" "[I") ∈ lw_tbl := tw_of 62 (by decide +kernel)
theorem tw_63 : (Jvm.Cond.fieldLink "PersonSeeds$Doors" (21 : Nat) "PersonSeeds$Doors" "wentOn" "[I") ∈ lw_tbl := tw_of 63 (by decide +kernel)
theorem tw_64 : (Jvm.Cond.fieldLinkNest "PersonSeeds" (133 : Nat) "PersonSeeds$Doors" "wentOn" "[I" "PersonSeeds") ∈ lw_tbl := tw_of 64 (by decide +kernel)
theorem tw_65 : (Jvm.Cond.fieldLink "PersonSeeds$Doors" (24 : Nat) "PersonSeeds$Doors" "wentBack" "[I") ∈ lw_tbl := tw_of 65 (by decide +kernel)
theorem tw_66 : (Jvm.Cond.fieldLinkNest "PersonSeeds" (136 : Nat) "PersonSeeds$Doors" "wentBack" "[I" "PersonSeeds") ∈ lw_tbl := tw_of 66 (by decide +kernel)
theorem tw_67 : (Jvm.Cond.fieldLink "PersonSeeds$Doors" (27 : Nat) "PersonSeeds$Doors" "wentNow" "[I") ∈ lw_tbl := tw_of 67 (by decide +kernel)
theorem tw_68 : (Jvm.Cond.fieldLink "PersonSeeds$Doors" (30 : Nat) "PersonSeeds$Doors" "steps" "[I") ∈ lw_tbl := tw_of 68 (by decide +kernel)
theorem tw_69 : (Jvm.Cond.lays "PersonSeeds$Doors" "PersonSeeds$Doors" "count" "I") ∈ lw_tbl := tw_of 69 (by decide +kernel)
theorem tw_70 : (Jvm.Cond.soleField "PersonSeeds$Doors" "count") ∈ lw_tbl := tw_of 70 (by decide +kernel)
theorem tw_71 : (Jvm.Cond.laysFinal "PersonSeeds$Doors" "PersonSeeds$Doors" "near" "[I") ∈ lw_tbl := tw_of 71 (by decide +kernel)
theorem tw_72 : (Jvm.Cond.soleField "PersonSeeds$Doors" "near") ∈ lw_tbl := tw_of 72 (by decide +kernel)
theorem tw_73 : (Jvm.Cond.laysFinal "PersonSeeds$Doors" "PersonSeeds$Doors" "far" "[I") ∈ lw_tbl := tw_of 73 (by decide +kernel)
theorem tw_74 : (Jvm.Cond.soleField "PersonSeeds$Doors" "far") ∈ lw_tbl := tw_of 74 (by decide +kernel)
theorem tw_75 : (Jvm.Cond.laysFinal "PersonSeeds$Doors" "PersonSeeds$Doors" "width" "[I") ∈ lw_tbl := tw_of 75 (by decide +kernel)
theorem tw_76 : (Jvm.Cond.soleField "PersonSeeds$Doors" "width") ∈ lw_tbl := tw_of 76 (by decide +kernel)
theorem tw_77 : (Jvm.Cond.laysFinal "PersonSeeds$Doors" "PersonSeeds$Doors" "wentOn" "[I") ∈ lw_tbl := tw_of 77 (by decide +kernel)
theorem tw_78 : (Jvm.Cond.soleField "PersonSeeds$Doors" "wentOn") ∈ lw_tbl := tw_of 78 (by decide +kernel)
theorem tw_79 : (Jvm.Cond.laysFinal "PersonSeeds$Doors" "PersonSeeds$Doors" "wentBack" "[I") ∈ lw_tbl := tw_of 79 (by decide +kernel)
theorem tw_80 : (Jvm.Cond.soleField "PersonSeeds$Doors" "wentBack") ∈ lw_tbl := tw_of 80 (by decide +kernel)
theorem tw_81 : (Jvm.Cond.laysFinal "PersonSeeds$Doors" "PersonSeeds$Doors" "wentNow" "[I") ∈ lw_tbl := tw_of 81 (by decide +kernel)
theorem tw_82 : (Jvm.Cond.soleField "PersonSeeds$Doors" "wentNow") ∈ lw_tbl := tw_of 82 (by decide +kernel)
theorem tw_83 : (Jvm.Cond.laysFinal "PersonSeeds$Doors" "PersonSeeds$Doors" "steps" "[I") ∈ lw_tbl := tw_of 83 (by decide +kernel)
theorem tw_84 : (Jvm.Cond.soleField "PersonSeeds$Doors" "steps") ∈ lw_tbl := tw_of 84 (by decide +kernel)
theorem tw_85 : (Jvm.Cond.superclass "PersonSeeds$Doors" "java/lang/Object") ∈ lw_tbl := tw_of 85 (by decide +kernel)
theorem tw_86 : (Jvm.Cond.classLink "PersonSeeds" (23 : Nat) "PersonSeeds$Trails") ∈ lw_tbl := tw_of 86 (by decide +kernel)
theorem tw_87 : (Jvm.Cond.instantiable "PersonSeeds$Trails" (3 : Nat)) ∈ lw_tbl := tw_of 87 (by decide +kernel)
theorem tw_88 : (Jvm.Cond.methodLinkNest "PersonSeeds" (25 : Nat) ({ cls := "PersonSeeds$Trails", name := "<init>", desc := "()V" } : Jvm.MethodName) "PersonSeeds") ∈ lw_tbl := tw_of 88 (by decide +kernel)
theorem tw_89 : (Jvm.Cond.instanceMethod ({ cls := "PersonSeeds$Trails", name := "<init>", desc := "()V" } : Jvm.MethodName)) ∈ lw_tbl := tw_of 89 (by decide +kernel)
theorem tw_90 : (Jvm.Cond.code ({ cls := "PersonSeeds$Trails", name := "<init>", desc := "()V" } : Jvm.MethodName) prog_5_method_1_code (1 : Nat) (Option.none : Option Jvm.ClassFile.FieldType)) ∈ lw_tbl := tw_of 90 (by decide +kernel)
theorem tw_91 : (Jvm.Cond.methodLink "PersonSeeds$Trails" (3 : Nat) ({ cls := "java/lang/Object", name := "<init>", desc := "()V" } : Jvm.MethodName)) ∈ lw_tbl := tw_of 91 (by decide +kernel)
theorem tw_92 : (Jvm.Cond.fieldLink "PersonSeeds$Trails" (9 : Nat) "PersonSeeds$Trails" "moves" "[I") ∈ lw_tbl := tw_of 92 (by decide +kernel)
theorem tw_93 : (Jvm.Cond.fieldLink "PersonSeeds$Trails" (15 : Nat) "PersonSeeds$Trails" "minutes" "[I") ∈ lw_tbl := tw_of 93 (by decide +kernel)
theorem tw_94 : (Jvm.Cond.fieldLink "PersonSeeds$Trails" (18 : Nat) "PersonSeeds$Trails" "places" "[I") ∈ lw_tbl := tw_of 94 (by decide +kernel)
theorem tw_95 : (Jvm.Cond.laysFinal "PersonSeeds$Trails" "PersonSeeds$Trails" "moves" "[I") ∈ lw_tbl := tw_of 95 (by decide +kernel)
theorem tw_96 : (Jvm.Cond.soleField "PersonSeeds$Trails" "moves") ∈ lw_tbl := tw_of 96 (by decide +kernel)
theorem tw_97 : (Jvm.Cond.laysFinal "PersonSeeds$Trails" "PersonSeeds$Trails" "minutes" "[I") ∈ lw_tbl := tw_of 97 (by decide +kernel)
theorem tw_98 : (Jvm.Cond.soleField "PersonSeeds$Trails" "minutes") ∈ lw_tbl := tw_of 98 (by decide +kernel)
theorem tw_99 : (Jvm.Cond.laysFinal "PersonSeeds$Trails" "PersonSeeds$Trails" "places" "[I") ∈ lw_tbl := tw_of 99 (by decide +kernel)
theorem tw_100 : (Jvm.Cond.soleField "PersonSeeds$Trails" "places") ∈ lw_tbl := tw_of 100 (by decide +kernel)
theorem tw_101 : (Jvm.Cond.superclass "PersonSeeds$Trails" "java/lang/Object") ∈ lw_tbl := tw_of 101 (by decide +kernel)
theorem tw_102 : (Jvm.Cond.classLink "PersonSeeds" (30 : Nat) "PersonSeeds$Persons") ∈ lw_tbl := tw_of 102 (by decide +kernel)
theorem tw_103 : (Jvm.Cond.instantiable "PersonSeeds$Persons" (9 : Nat)) ∈ lw_tbl := tw_of 103 (by decide +kernel)
theorem tw_104 : (Jvm.Cond.methodLinkNest "PersonSeeds" (32 : Nat) ({ cls := "PersonSeeds$Persons", name := "<init>", desc := "(J)V" } : Jvm.MethodName) "PersonSeeds") ∈ lw_tbl := tw_of 104 (by decide +kernel)
theorem tw_105 : (Jvm.Cond.instanceMethod ({ cls := "PersonSeeds$Persons", name := "<init>", desc := "(J)V" } : Jvm.MethodName)) ∈ lw_tbl := tw_of 105 (by decide +kernel)
theorem tw_106 : (Jvm.Cond.code ({ cls := "PersonSeeds$Persons", name := "<init>", desc := "(J)V" } : Jvm.MethodName) prog_3_method_1_code (3 : Nat) (Option.none : Option Jvm.ClassFile.FieldType)) ∈ lw_tbl := tw_of 106 (by decide +kernel)
theorem tw_107 : (Jvm.Cond.methodLink "PersonSeeds$Persons" (3 : Nat) ({ cls := "java/lang/Object", name := "<init>", desc := "()V" } : Jvm.MethodName)) ∈ lw_tbl := tw_of 107 (by decide +kernel)
theorem tw_108 : (Jvm.Cond.fieldLink "PersonSeeds$Persons" (33 : Nat) "PersonSeeds$Persons" "seed" "J") ∈ lw_tbl := tw_of 108 (by decide +kernel)
theorem tw_109 : (Jvm.Cond.fieldLink "PersonSeeds$Persons" (37 : Nat) "PersonSeeds$Persons" "count" "I") ∈ lw_tbl := tw_of 109 (by decide +kernel)
theorem tw_110 : (Jvm.Cond.fieldLinkNest "PersonSeeds" (73 : Nat) "PersonSeeds$Persons" "count" "I" "PersonSeeds") ∈ lw_tbl := tw_of 110 (by decide +kernel)
theorem tw_111 : (Jvm.Cond.fieldLink "PersonSeeds$Persons" (9 : Nat) "PersonSeeds$Persons" "comes" "[I") ∈ lw_tbl := tw_of 111 (by decide +kernel)
theorem tw_112 : (Jvm.Cond.fieldLinkNest "PersonSeeds" (92 : Nat) "PersonSeeds$Persons" "comes" "[I" "PersonSeeds") ∈ lw_tbl := tw_of 112 (by decide +kernel)
theorem tw_113 : (Jvm.Cond.fieldLink "PersonSeeds$Persons" (15 : Nat) "PersonSeeds$Persons" "desk" "[I") ∈ lw_tbl := tw_of 113 (by decide +kernel)
theorem tw_114 : (Jvm.Cond.fieldLinkNest "PersonSeeds" (96 : Nat) "PersonSeeds$Persons" "desk" "[I" "PersonSeeds") ∈ lw_tbl := tw_of 114 (by decide +kernel)
theorem tw_115 : (Jvm.Cond.fieldLink "PersonSeeds$Persons" (18 : Nat) "PersonSeeds$Persons" "eatsFrom" "[I") ∈ lw_tbl := tw_of 115 (by decide +kernel)
theorem tw_116 : (Jvm.Cond.fieldLinkNest "PersonSeeds" (99 : Nat) "PersonSeeds$Persons" "eatsFrom" "[I" "PersonSeeds") ∈ lw_tbl := tw_of 116 (by decide +kernel)
theorem tw_117 : (Jvm.Cond.fieldLink "PersonSeeds$Persons" (21 : Nat) "PersonSeeds$Persons" "eatsUntil" "[I") ∈ lw_tbl := tw_of 117 (by decide +kernel)
theorem tw_118 : (Jvm.Cond.fieldLinkNest "PersonSeeds" (102 : Nat) "PersonSeeds$Persons" "eatsUntil" "[I" "PersonSeeds") ∈ lw_tbl := tw_of 118 (by decide +kernel)
theorem tw_119 : (Jvm.Cond.fieldLink "PersonSeeds$Persons" (24 : Nat) "PersonSeeds$Persons" "eatsIn" "[I") ∈ lw_tbl := tw_of 119 (by decide +kernel)
theorem tw_120 : (Jvm.Cond.fieldLinkNest "PersonSeeds" (105 : Nat) "PersonSeeds$Persons" "eatsIn" "[I" "PersonSeeds") ∈ lw_tbl := tw_of 120 (by decide +kernel)
theorem tw_121 : (Jvm.Cond.fieldLink "PersonSeeds$Persons" (27 : Nat) "PersonSeeds$Persons" "leaves" "[I") ∈ lw_tbl := tw_of 121 (by decide +kernel)
theorem tw_122 : (Jvm.Cond.fieldLinkNest "PersonSeeds" (108 : Nat) "PersonSeeds$Persons" "leaves" "[I" "PersonSeeds") ∈ lw_tbl := tw_of 122 (by decide +kernel)
theorem tw_123 : (Jvm.Cond.fieldLink "PersonSeeds$Persons" (30 : Nat) "PersonSeeds$Persons" "waits" "[I") ∈ lw_tbl := tw_of 123 (by decide +kernel)
theorem tw_124 : (Jvm.Cond.fieldLinkNest "PersonSeeds" (121 : Nat) "PersonSeeds$Persons" "waits" "[I" "PersonSeeds") ∈ lw_tbl := tw_of 124 (by decide +kernel)
theorem tw_125 : (Jvm.Cond.laysFinal "PersonSeeds$Persons" "PersonSeeds$Persons" "seed" "J") ∈ lw_tbl := tw_of 125 (by decide +kernel)
theorem tw_126 : (Jvm.Cond.soleField "PersonSeeds$Persons" "seed") ∈ lw_tbl := tw_of 126 (by decide +kernel)
theorem tw_127 : (Jvm.Cond.lays "PersonSeeds$Persons" "PersonSeeds$Persons" "count" "I") ∈ lw_tbl := tw_of 127 (by decide +kernel)
theorem tw_128 : (Jvm.Cond.soleField "PersonSeeds$Persons" "count") ∈ lw_tbl := tw_of 128 (by decide +kernel)
theorem tw_129 : (Jvm.Cond.laysFinal "PersonSeeds$Persons" "PersonSeeds$Persons" "comes" "[I") ∈ lw_tbl := tw_of 129 (by decide +kernel)
theorem tw_130 : (Jvm.Cond.soleField "PersonSeeds$Persons" "comes") ∈ lw_tbl := tw_of 130 (by decide +kernel)
theorem tw_131 : (Jvm.Cond.laysFinal "PersonSeeds$Persons" "PersonSeeds$Persons" "desk" "[I") ∈ lw_tbl := tw_of 131 (by decide +kernel)
theorem tw_132 : (Jvm.Cond.soleField "PersonSeeds$Persons" "desk") ∈ lw_tbl := tw_of 132 (by decide +kernel)
theorem tw_133 : (Jvm.Cond.laysFinal "PersonSeeds$Persons" "PersonSeeds$Persons" "eatsFrom" "[I") ∈ lw_tbl := tw_of 133 (by decide +kernel)
theorem tw_134 : (Jvm.Cond.soleField "PersonSeeds$Persons" "eatsFrom") ∈ lw_tbl := tw_of 134 (by decide +kernel)
theorem tw_135 : (Jvm.Cond.laysFinal "PersonSeeds$Persons" "PersonSeeds$Persons" "eatsUntil" "[I") ∈ lw_tbl := tw_of 135 (by decide +kernel)
theorem tw_136 : (Jvm.Cond.soleField "PersonSeeds$Persons" "eatsUntil") ∈ lw_tbl := tw_of 136 (by decide +kernel)
theorem tw_137 : (Jvm.Cond.laysFinal "PersonSeeds$Persons" "PersonSeeds$Persons" "eatsIn" "[I") ∈ lw_tbl := tw_of 137 (by decide +kernel)
theorem tw_138 : (Jvm.Cond.soleField "PersonSeeds$Persons" "eatsIn") ∈ lw_tbl := tw_of 138 (by decide +kernel)
theorem tw_139 : (Jvm.Cond.laysFinal "PersonSeeds$Persons" "PersonSeeds$Persons" "leaves" "[I") ∈ lw_tbl := tw_of 139 (by decide +kernel)
theorem tw_140 : (Jvm.Cond.soleField "PersonSeeds$Persons" "leaves") ∈ lw_tbl := tw_of 140 (by decide +kernel)
theorem tw_141 : (Jvm.Cond.laysFinal "PersonSeeds$Persons" "PersonSeeds$Persons" "waits" "[I") ∈ lw_tbl := tw_of 141 (by decide +kernel)
theorem tw_142 : (Jvm.Cond.soleField "PersonSeeds$Persons" "waits") ∈ lw_tbl := tw_of 142 (by decide +kernel)
theorem tw_143 : (Jvm.Cond.superclass "PersonSeeds$Persons" "java/lang/Object") ∈ lw_tbl := tw_of 143 (by decide +kernel)
theorem tw_144 : (Jvm.Cond.fieldLink "PersonSeeds" (10 : Nat) "PersonSeeds" "rooms" "LPersonSeeds$Rooms;") ∈ lw_tbl := tw_of 144 (by decide +kernel)
theorem tw_145 : (Jvm.Cond.fieldLink "PersonSeeds" (19 : Nat) "PersonSeeds" "doors" "LPersonSeeds$Doors;") ∈ lw_tbl := tw_of 145 (by decide +kernel)
theorem tw_146 : (Jvm.Cond.fieldLink "PersonSeeds" (26 : Nat) "PersonSeeds" "trails" "LPersonSeeds$Trails;") ∈ lw_tbl := tw_of 146 (by decide +kernel)
theorem tw_147 : (Jvm.Cond.fieldLink "PersonSeeds" (35 : Nat) "PersonSeeds" "persons" "LPersonSeeds$Persons;") ∈ lw_tbl := tw_of 147 (by decide +kernel)
theorem tw_148 : (Jvm.Cond.fieldLink "PersonSeeds" (43 : Nat) "PersonSeeds" "minute" "I") ∈ lw_tbl := tw_of 148 (by decide +kernel)
theorem tw_149 : (Jvm.Cond.fieldLink "PersonSeeds" (83 : Nat) "PersonSeeds" "cameIn" "I") ∈ lw_tbl := tw_of 149 (by decide +kernel)
theorem tw_150 : (Jvm.Cond.fieldLink "PersonSeeds" (86 : Nat) "PersonSeeds" "wentOut" "I") ∈ lw_tbl := tw_of 150 (by decide +kernel)
theorem tw_151 : (Jvm.Cond.laysFinal "PersonSeeds" "PersonSeeds" "rooms" "LPersonSeeds$Rooms;") ∈ lw_tbl := tw_of 151 (by decide +kernel)
theorem tw_152 : (Jvm.Cond.soleField "PersonSeeds" "rooms") ∈ lw_tbl := tw_of 152 (by decide +kernel)
theorem tw_153 : (Jvm.Cond.laysFinal "PersonSeeds" "PersonSeeds" "doors" "LPersonSeeds$Doors;") ∈ lw_tbl := tw_of 153 (by decide +kernel)
theorem tw_154 : (Jvm.Cond.soleField "PersonSeeds" "doors") ∈ lw_tbl := tw_of 154 (by decide +kernel)
theorem tw_155 : (Jvm.Cond.laysFinal "PersonSeeds" "PersonSeeds" "trails" "LPersonSeeds$Trails;") ∈ lw_tbl := tw_of 155 (by decide +kernel)
theorem tw_156 : (Jvm.Cond.soleField "PersonSeeds" "trails") ∈ lw_tbl := tw_of 156 (by decide +kernel)
theorem tw_157 : (Jvm.Cond.laysFinal "PersonSeeds" "PersonSeeds" "persons" "LPersonSeeds$Persons;") ∈ lw_tbl := tw_of 157 (by decide +kernel)
theorem tw_158 : (Jvm.Cond.soleField "PersonSeeds" "persons") ∈ lw_tbl := tw_of 158 (by decide +kernel)
theorem tw_159 : (Jvm.Cond.lays "PersonSeeds" "PersonSeeds" "minute" "I") ∈ lw_tbl := tw_of 159 (by decide +kernel)
theorem tw_160 : (Jvm.Cond.soleField "PersonSeeds" "minute") ∈ lw_tbl := tw_of 160 (by decide +kernel)
theorem tw_161 : (Jvm.Cond.lays "PersonSeeds" "PersonSeeds" "cameIn" "I") ∈ lw_tbl := tw_of 161 (by decide +kernel)
theorem tw_162 : (Jvm.Cond.soleField "PersonSeeds" "cameIn") ∈ lw_tbl := tw_of 162 (by decide +kernel)
theorem tw_163 : (Jvm.Cond.lays "PersonSeeds" "PersonSeeds" "wentOut" "I") ∈ lw_tbl := tw_of 163 (by decide +kernel)
theorem tw_164 : (Jvm.Cond.soleField "PersonSeeds" "wentOut") ∈ lw_tbl := tw_of 164 (by decide +kernel)
theorem tw_165 : (Jvm.Cond.superclass "PersonSeeds" "java/lang/Object") ∈ lw_tbl := tw_of 165 (by decide +kernel)
theorem tw_166 : (Jvm.Cond.methodLink "PersonSeedsLaw" (121 : Nat) ({ cls := "PersonSeeds", name := "entered", desc := "(Z)I" } : Jvm.MethodName)) ∈ lw_tbl := tw_of 166 (by decide +kernel)
theorem tw_167 : (Jvm.Cond.instanceMethod ({ cls := "PersonSeeds", name := "entered", desc := "(Z)I" } : Jvm.MethodName)) ∈ lw_tbl := tw_of 167 (by decide +kernel)
theorem tw_168 : (Jvm.Cond.selects "PersonSeeds" ({ cls := "PersonSeeds", name := "entered", desc := "(Z)I" } : Jvm.MethodName) ({ cls := "PersonSeeds", name := "entered", desc := "(Z)I" } : Jvm.MethodName)) ∈ lw_tbl := tw_of 168 (by decide +kernel)
theorem tw_169 : (Jvm.Cond.code ({ cls := "PersonSeeds", name := "entered", desc := "(Z)I" } : Jvm.MethodName) prog_1_method_16_code (2 : Nat) (Option.some Jvm.ClassFile.FieldType.int)) ∈ lw_tbl := tw_of 169 (by decide +kernel)
theorem tw_170 : (Jvm.Cond.methodLink "PersonSeedsLaw" (59 : Nat) ({ cls := "PersonSeedsLaw", name := "cell", desc := "([II)I" } : Jvm.MethodName)) ∈ lw_tbl := tw_of 170 (by decide +kernel)
theorem tw_171 : (Jvm.Cond.static ({ cls := "PersonSeedsLaw", name := "cell", desc := "([II)I" } : Jvm.MethodName)) ∈ lw_tbl := tw_of 171 (by decide +kernel)
theorem tw_172 : (Jvm.Cond.code ({ cls := "PersonSeedsLaw", name := "cell", desc := "([II)I" } : Jvm.MethodName) method_2_code (2 : Nat) (Option.some Jvm.ClassFile.FieldType.int)) ∈ lw_tbl := tw_of 172 (by decide +kernel)
theorem tw_173 : (Jvm.Cond.methodLink "PersonSeedsLaw" (71 : Nat) ({ cls := "PersonSeedsLaw", name := "room", desc := "(LPersonSeeds;I[J)I" } : Jvm.MethodName)) ∈ lw_tbl := tw_of 173 (by decide +kernel)
theorem tw_174 : (Jvm.Cond.static ({ cls := "PersonSeedsLaw", name := "room", desc := "(LPersonSeeds;I[J)I" } : Jvm.MethodName)) ∈ lw_tbl := tw_of 174 (by decide +kernel)
theorem tw_175 : (Jvm.Cond.codeWith ({ cls := "PersonSeedsLaw", name := "room", desc := "(LPersonSeeds;I[J)I" } : Jvm.MethodName) method_3_code (4 : Nat) (Option.some Jvm.ClassFile.FieldType.int) [((0 : Nat), (9 : Nat), (12 : Nat), (13 : Nat)), ((0 : Nat), (9 : Nat), (15 : Nat), (15 : Nat))]) ∈ lw_tbl := tw_of 175 (by decide +kernel)
theorem tw_176 : (Jvm.Cond.classLink "PersonSeedsLaw" (13 : Nat) "java/lang/IllegalArgumentException") ∈ lw_tbl := tw_of 176 (by decide +kernel)
theorem tw_177 : (Jvm.Cond.classLink "PersonSeedsLaw" (15 : Nat) "java/lang/IllegalStateException") ∈ lw_tbl := tw_of 177 (by decide +kernel)
theorem tw_178 : (Jvm.Cond.methodLink "PersonSeedsLaw" (7 : Nat) ({ cls := "PersonSeeds", name := "room", desc := "(I)I" } : Jvm.MethodName)) ∈ lw_tbl := tw_of 178 (by decide +kernel)
theorem tw_179 : (Jvm.Cond.instanceMethod ({ cls := "PersonSeeds", name := "room", desc := "(I)I" } : Jvm.MethodName)) ∈ lw_tbl := tw_of 179 (by decide +kernel)
theorem tw_180 : (Jvm.Cond.selects "PersonSeeds" ({ cls := "PersonSeeds", name := "room", desc := "(I)I" } : Jvm.MethodName) ({ cls := "PersonSeeds", name := "room", desc := "(I)I" } : Jvm.MethodName)) ∈ lw_tbl := tw_of 180 (by decide +kernel)
theorem tw_181 : (Jvm.Cond.code ({ cls := "PersonSeeds", name := "room", desc := "(I)I" } : Jvm.MethodName) prog_1_method_2_code (3 : Nat) (Option.some Jvm.ClassFile.FieldType.int)) ∈ lw_tbl := tw_of 181 (by decide +kernel)
theorem tw_182 : (Jvm.Cond.methodLink "PersonSeeds" (39 : Nat) ({ cls := "PersonSeeds", name := "checkBounds", desc := "(III)V" } : Jvm.MethodName)) ∈ lw_tbl := tw_of 182 (by decide +kernel)
theorem tw_183 : (Jvm.Cond.static ({ cls := "PersonSeeds", name := "checkBounds", desc := "(III)V" } : Jvm.MethodName)) ∈ lw_tbl := tw_of 183 (by decide +kernel)
theorem tw_184 : (Jvm.Cond.code ({ cls := "PersonSeeds", name := "checkBounds", desc := "(III)V" } : Jvm.MethodName) prog_1_method_20_code (3 : Nat) (Option.none : Option Jvm.ClassFile.FieldType)) ∈ lw_tbl := tw_of 184 (by decide +kernel)
theorem tw_185 : (Jvm.Cond.classLink "PersonSeeds" (153 : Nat) "java/lang/IllegalArgumentException") ∈ lw_tbl := tw_of 185 (by decide +kernel)
theorem tw_186 : (Jvm.Cond.instantiable "java/lang/IllegalArgumentException" (6 : Nat)) ∈ lw_tbl := tw_of 186 (by decide +kernel)
theorem tw_187 : (Jvm.Cond.castable "java/lang/IllegalArgumentException" "java/lang/IllegalArgumentException") ∈ lw_tbl := tw_of 187 (by decide +kernel)
theorem tw_188 : (Jvm.Cond.declares ({ cls := "java/lang/RuntimeException", name := "<init>", desc := "()V" } : Jvm.MethodName)) ∈ lw_tbl := tw_of 188 (by decide +kernel)
theorem tw_189 : (Jvm.Cond.declares ({ cls := "java/lang/RuntimeException", name := "<init>", desc := "(Ljava/lang/String;)V" } : Jvm.MethodName)) ∈ lw_tbl := tw_of 189 (by decide +kernel)
theorem tw_190 : (Jvm.Cond.declares ({ cls := "java/lang/Exception", name := "<init>", desc := "()V" } : Jvm.MethodName)) ∈ lw_tbl := tw_of 190 (by decide +kernel)
theorem tw_191 : (Jvm.Cond.declares ({ cls := "java/lang/Exception", name := "<init>", desc := "(Ljava/lang/String;)V" } : Jvm.MethodName)) ∈ lw_tbl := tw_of 191 (by decide +kernel)
theorem tw_192 : (Jvm.Cond.declares ({ cls := "java/lang/Throwable", name := "<init>", desc := "()V" } : Jvm.MethodName)) ∈ lw_tbl := tw_of 192 (by decide +kernel)
theorem tw_193 : (Jvm.Cond.declares ({ cls := "java/lang/Throwable", name := "<init>", desc := "(Ljava/lang/String;)V" } : Jvm.MethodName)) ∈ lw_tbl := tw_of 193 (by decide +kernel)
theorem tw_194 : (Jvm.Cond.selects "java/lang/IllegalArgumentException" ({ cls := "java/lang/Throwable", name := "fillInStackTrace", desc := "(I)Ljava/lang/Throwable;" } : Jvm.MethodName) ({ cls := "java/lang/Throwable", name := "fillInStackTrace", desc := "(I)Ljava/lang/Throwable;" } : Jvm.MethodName)) ∈ lw_tbl := tw_of 194 (by decide +kernel)
theorem tw_195 : (Jvm.Cond.selects "java/lang/IllegalArgumentException" ({ cls := "java/lang/Throwable", name := "fillInStackTrace", desc := "()Ljava/lang/Throwable;" } : Jvm.MethodName) ({ cls := "java/lang/Throwable", name := "fillInStackTrace", desc := "()Ljava/lang/Throwable;" } : Jvm.MethodName)) ∈ lw_tbl := tw_of 195 (by decide +kernel)
theorem tw_196 : (Jvm.Cond.lays "java/lang/IllegalArgumentException" "java/lang/Throwable" "cause" "Ljava/lang/Throwable;") ∈ lw_tbl := tw_of 196 (by decide +kernel)
theorem tw_197 : (Jvm.Cond.lays "java/lang/Throwable" "java/lang/Throwable" "cause" "Ljava/lang/Throwable;") ∈ lw_tbl := tw_of 197 (by decide +kernel)
theorem tw_198 : (Jvm.Cond.lays "java/lang/IllegalArgumentException" "java/lang/Throwable" "stackTrace" "[Ljava/lang/StackTraceElement;") ∈ lw_tbl := tw_of 198 (by decide +kernel)
theorem tw_199 : (Jvm.Cond.lays "java/lang/Throwable" "java/lang/Throwable" "stackTrace" "[Ljava/lang/StackTraceElement;") ∈ lw_tbl := tw_of 199 (by decide +kernel)
theorem tw_200 : (Jvm.Cond.lays "java/lang/IllegalArgumentException" "java/lang/Throwable" "suppressedExceptions" "Ljava/util/List;") ∈ lw_tbl := tw_of 200 (by decide +kernel)
theorem tw_201 : (Jvm.Cond.lays "java/lang/Throwable" "java/lang/Throwable" "suppressedExceptions" "Ljava/util/List;") ∈ lw_tbl := tw_of 201 (by decide +kernel)
theorem tw_202 : (Jvm.Cond.lays "java/lang/IllegalArgumentException" "java/lang/Throwable" "detailMessage" "Ljava/lang/String;") ∈ lw_tbl := tw_of 202 (by decide +kernel)
theorem tw_203 : (Jvm.Cond.lays "java/lang/Throwable" "java/lang/Throwable" "detailMessage" "Ljava/lang/String;") ∈ lw_tbl := tw_of 203 (by decide +kernel)
theorem tw_204 : (Jvm.Cond.lays "java/lang/IllegalArgumentException" "java/lang/Throwable" "backtrace" "Ljava/lang/Object;") ∈ lw_tbl := tw_of 204 (by decide +kernel)
theorem tw_205 : (Jvm.Cond.lays "java/lang/Throwable" "java/lang/Throwable" "backtrace" "Ljava/lang/Object;") ∈ lw_tbl := tw_of 205 (by decide +kernel)
theorem tw_206 : (Jvm.Cond.fieldLink "java/lang/Throwable" (198 : Nat) "java/lang/Throwable" "backtrace" "Ljava/lang/Object;") ∈ lw_tbl := tw_of 206 (by decide +kernel)
theorem tw_207 : (Jvm.Cond.superclass "java/lang/Throwable" "java/lang/Object") ∈ lw_tbl := tw_of 207 (by decide +kernel)
theorem tw_208 : (Jvm.Cond.instanceMethod ({ cls := "java/lang/Throwable", name := "<init>", desc := "()V" } : Jvm.MethodName)) ∈ lw_tbl := tw_of 208 (by decide +kernel)
theorem tw_209 : (Jvm.Cond.code ({ cls := "java/lang/Throwable", name := "<init>", desc := "()V" } : Jvm.MethodName) prog_14_method_1_code (1 : Nat) (Option.none : Option Jvm.ClassFile.FieldType)) ∈ lw_tbl := tw_of 209 (by decide +kernel)
theorem tw_210 : (Jvm.Cond.methodLink "java/lang/Throwable" (1 : Nat) ({ cls := "java/lang/Object", name := "<init>", desc := "()V" } : Jvm.MethodName)) ∈ lw_tbl := tw_of 210 (by decide +kernel)
theorem tw_211 : (Jvm.Cond.fieldLink "java/lang/Throwable" (13 : Nat) "java/lang/Throwable" "UNASSIGNED_STACK" "[Ljava/lang/StackTraceElement;") ∈ lw_tbl := tw_of 211 (by decide +kernel)
theorem tw_212 : (Jvm.Cond.laysStatic "java/lang/Throwable" "UNASSIGNED_STACK" "[Ljava/lang/StackTraceElement;") ∈ lw_tbl := tw_of 212 (by decide +kernel)
theorem tw_213 : (Jvm.Cond.fieldLink "java/lang/Throwable" (20 : Nat) "java/lang/Throwable" "SUPPRESSED_SENTINEL" "Ljava/util/List;") ∈ lw_tbl := tw_of 213 (by decide +kernel)
theorem tw_214 : (Jvm.Cond.laysStatic "java/lang/Throwable" "SUPPRESSED_SENTINEL" "Ljava/util/List;") ∈ lw_tbl := tw_of 214 (by decide +kernel)
theorem tw_215 : (Jvm.Cond.methodLink "java/lang/Throwable" (27 : Nat) ({ cls := "java/lang/Throwable", name := "fillInStackTrace", desc := "()Ljava/lang/Throwable;" } : Jvm.MethodName)) ∈ lw_tbl := tw_of 215 (by decide +kernel)
theorem tw_216 : (Jvm.Cond.instanceMethod ({ cls := "java/lang/Throwable", name := "fillInStackTrace", desc := "()Ljava/lang/Throwable;" } : Jvm.MethodName)) ∈ lw_tbl := tw_of 216 (by decide +kernel)
theorem tw_217 : (Jvm.Cond.sameMethod "java/lang/Throwable" "java/lang/Throwable" "fillInStackTrace" "()Ljava/lang/Throwable;") ∈ lw_tbl := tw_of 217 (by decide +kernel)
theorem tw_218 : (Jvm.Cond.selects "java/lang/IllegalStateException" ({ cls := "java/lang/Throwable", name := "fillInStackTrace", desc := "()Ljava/lang/Throwable;" } : Jvm.MethodName) ({ cls := "java/lang/Throwable", name := "fillInStackTrace", desc := "()Ljava/lang/Throwable;" } : Jvm.MethodName)) ∈ lw_tbl := tw_of 218 (by decide +kernel)
theorem tw_219 : (Jvm.Cond.codeSync ({ cls := "java/lang/Throwable", name := "fillInStackTrace", desc := "()Ljava/lang/Throwable;" } : Jvm.MethodName) prog_14_method_18_code (1 : Nat) (Option.some (Jvm.ClassFile.FieldType.object "java/lang/Throwable"))) ∈ lw_tbl := tw_of 219 (by decide +kernel)
theorem tw_220 : (Jvm.Cond.methodLink "java/lang/Throwable" (202 : Nat) ({ cls := "java/lang/Throwable", name := "fillInStackTrace", desc := "(I)Ljava/lang/Throwable;" } : Jvm.MethodName)) ∈ lw_tbl := tw_of 220 (by decide +kernel)
theorem tw_221 : (Jvm.Cond.privateMethod ({ cls := "java/lang/Throwable", name := "fillInStackTrace", desc := "(I)Ljava/lang/Throwable;" } : Jvm.MethodName)) ∈ lw_tbl := tw_of 221 (by decide +kernel)
theorem tw_222 : (Jvm.Cond.instanceMethod ({ cls := "java/lang/Throwable", name := "fillInStackTrace", desc := "(I)Ljava/lang/Throwable;" } : Jvm.MethodName)) ∈ lw_tbl := tw_of 222 (by decide +kernel)
theorem tw_223 : (Jvm.Cond.instantiable "java/lang/Throwable" (6 : Nat)) ∈ lw_tbl := tw_of 223 (by decide +kernel)
theorem tw_224 : (Jvm.Cond.native ({ cls := "java/lang/Throwable", name := "fillInStackTrace", desc := "(I)Ljava/lang/Throwable;" } : Jvm.MethodName)) ∈ lw_tbl := tw_of 224 (by decide +kernel)
theorem tw_225 : (Jvm.Cond.stringRef "PersonSeeds" (155 : Nat) "out of bounds, or there is no such one") ∈ lw_tbl := tw_of 225 (by decide +kernel)
theorem tw_226 : (Jvm.Cond.methodLink "PersonSeeds" (157 : Nat) ({ cls := "java/lang/IllegalArgumentException", name := "<init>", desc := "(Ljava/lang/String;)V" } : Jvm.MethodName)) ∈ lw_tbl := tw_of 226 (by decide +kernel)
theorem tw_227 : (Jvm.Cond.instanceMethod ({ cls := "java/lang/IllegalArgumentException", name := "<init>", desc := "(Ljava/lang/String;)V" } : Jvm.MethodName)) ∈ lw_tbl := tw_of 227 (by decide +kernel)
theorem tw_228 : (Jvm.Cond.code ({ cls := "java/lang/IllegalArgumentException", name := "<init>", desc := "(Ljava/lang/String;)V" } : Jvm.MethodName) prog_9_method_2_code (2 : Nat) (Option.none : Option Jvm.ClassFile.FieldType)) ∈ lw_tbl := tw_of 228 (by decide +kernel)
theorem tw_229 : (Jvm.Cond.methodLink "java/lang/IllegalArgumentException" (7 : Nat) ({ cls := "java/lang/RuntimeException", name := "<init>", desc := "(Ljava/lang/String;)V" } : Jvm.MethodName)) ∈ lw_tbl := tw_of 229 (by decide +kernel)
theorem tw_230 : (Jvm.Cond.instanceMethod ({ cls := "java/lang/RuntimeException", name := "<init>", desc := "(Ljava/lang/String;)V" } : Jvm.MethodName)) ∈ lw_tbl := tw_of 230 (by decide +kernel)
theorem tw_231 : (Jvm.Cond.code ({ cls := "java/lang/RuntimeException", name := "<init>", desc := "(Ljava/lang/String;)V" } : Jvm.MethodName) prog_12_method_2_code (2 : Nat) (Option.none : Option Jvm.ClassFile.FieldType)) ∈ lw_tbl := tw_of 231 (by decide +kernel)
theorem tw_232 : (Jvm.Cond.methodLink "java/lang/RuntimeException" (7 : Nat) ({ cls := "java/lang/Exception", name := "<init>", desc := "(Ljava/lang/String;)V" } : Jvm.MethodName)) ∈ lw_tbl := tw_of 232 (by decide +kernel)
theorem tw_233 : (Jvm.Cond.instanceMethod ({ cls := "java/lang/Exception", name := "<init>", desc := "(Ljava/lang/String;)V" } : Jvm.MethodName)) ∈ lw_tbl := tw_of 233 (by decide +kernel)
theorem tw_234 : (Jvm.Cond.code ({ cls := "java/lang/Exception", name := "<init>", desc := "(Ljava/lang/String;)V" } : Jvm.MethodName) prog_8_method_2_code (2 : Nat) (Option.none : Option Jvm.ClassFile.FieldType)) ∈ lw_tbl := tw_of 234 (by decide +kernel)
theorem tw_235 : (Jvm.Cond.methodLink "java/lang/Exception" (7 : Nat) ({ cls := "java/lang/Throwable", name := "<init>", desc := "(Ljava/lang/String;)V" } : Jvm.MethodName)) ∈ lw_tbl := tw_of 235 (by decide +kernel)
theorem tw_236 : (Jvm.Cond.instanceMethod ({ cls := "java/lang/Throwable", name := "<init>", desc := "(Ljava/lang/String;)V" } : Jvm.MethodName)) ∈ lw_tbl := tw_of 236 (by decide +kernel)
theorem tw_237 : (Jvm.Cond.code ({ cls := "java/lang/Throwable", name := "<init>", desc := "(Ljava/lang/String;)V" } : Jvm.MethodName) prog_14_method_2_code (2 : Nat) (Option.none : Option Jvm.ClassFile.FieldType)) ∈ lw_tbl := tw_of 237 (by decide +kernel)
theorem tw_238 : (Jvm.Cond.fieldLink "java/lang/Throwable" (198 : Nat) "java/lang/Throwable" "backtrace" "Ljava/lang/Object;") ∈ lw_tbl := tw_of 238 (by decide +kernel)
theorem tw_239 : (Jvm.Cond.fieldLink "java/lang/Throwable" (31 : Nat) "java/lang/Throwable" "detailMessage" "Ljava/lang/String;") ∈ lw_tbl := tw_of 239 (by decide +kernel)
theorem tw_240 : (Jvm.Cond.fieldLink "java/lang/Throwable" (7 : Nat) "java/lang/Throwable" "cause" "Ljava/lang/Throwable;") ∈ lw_tbl := tw_of 240 (by decide +kernel)
theorem tw_241 : (Jvm.Cond.fieldLink "java/lang/Throwable" (17 : Nat) "java/lang/Throwable" "stackTrace" "[Ljava/lang/StackTraceElement;") ∈ lw_tbl := tw_of 241 (by decide +kernel)
theorem tw_242 : (Jvm.Cond.fieldLink "java/lang/Throwable" (24 : Nat) "java/lang/Throwable" "suppressedExceptions" "Ljava/util/List;") ∈ lw_tbl := tw_of 242 (by decide +kernel)
theorem tw_243 : (Jvm.Cond.soleField "java/lang/Throwable" "backtrace") ∈ lw_tbl := tw_of 243 (by decide +kernel)
theorem tw_244 : (Jvm.Cond.soleField "java/lang/Throwable" "detailMessage") ∈ lw_tbl := tw_of 244 (by decide +kernel)
theorem tw_245 : (Jvm.Cond.soleField "java/lang/Throwable" "cause") ∈ lw_tbl := tw_of 245 (by decide +kernel)
theorem tw_246 : (Jvm.Cond.soleField "java/lang/Throwable" "stackTrace") ∈ lw_tbl := tw_of 246 (by decide +kernel)
theorem tw_247 : (Jvm.Cond.lays "java/lang/IllegalArgumentException" "java/lang/Throwable" "depth" "I") ∈ lw_tbl := tw_of 247 (by decide +kernel)
theorem tw_248 : (Jvm.Cond.soleField "java/lang/Throwable" "depth") ∈ lw_tbl := tw_of 248 (by decide +kernel)
theorem tw_249 : (Jvm.Cond.soleField "java/lang/Throwable" "suppressedExceptions") ∈ lw_tbl := tw_of 249 (by decide +kernel)
theorem tw_250 : (Jvm.Cond.superclass "java/lang/IllegalArgumentException" "java/lang/RuntimeException") ∈ lw_tbl := tw_of 250 (by decide +kernel)
theorem tw_251 : (Jvm.Cond.arrayClass Jvm.ClassFile.FieldType.byte) ∈ lw_tbl := tw_of 251 (by decide +kernel)
theorem tw_252 : (Jvm.Cond.methodLink "PersonSeeds" (50 : Nat) ({ cls := "PersonSeeds", name := "checkState", desc := "(Z)V" } : Jvm.MethodName)) ∈ lw_tbl := tw_of 252 (by decide +kernel)
theorem tw_253 : (Jvm.Cond.static ({ cls := "PersonSeeds", name := "checkState", desc := "(Z)V" } : Jvm.MethodName)) ∈ lw_tbl := tw_of 253 (by decide +kernel)
theorem tw_254 : (Jvm.Cond.code ({ cls := "PersonSeeds", name := "checkState", desc := "(Z)V" } : Jvm.MethodName) prog_1_method_22_code (1 : Nat) (Option.none : Option Jvm.ClassFile.FieldType)) ∈ lw_tbl := tw_of 254 (by decide +kernel)
theorem tw_255 : (Jvm.Cond.classLink "PersonSeeds" (162 : Nat) "java/lang/IllegalStateException") ∈ lw_tbl := tw_of 255 (by decide +kernel)
theorem tw_256 : (Jvm.Cond.instantiable "java/lang/IllegalStateException" (6 : Nat)) ∈ lw_tbl := tw_of 256 (by decide +kernel)
theorem tw_257 : (Jvm.Cond.castable "java/lang/IllegalStateException" "java/lang/IllegalStateException") ∈ lw_tbl := tw_of 257 (by decide +kernel)
theorem tw_258 : (Jvm.Cond.selects "java/lang/IllegalStateException" ({ cls := "java/lang/Throwable", name := "fillInStackTrace", desc := "(I)Ljava/lang/Throwable;" } : Jvm.MethodName) ({ cls := "java/lang/Throwable", name := "fillInStackTrace", desc := "(I)Ljava/lang/Throwable;" } : Jvm.MethodName)) ∈ lw_tbl := tw_of 258 (by decide +kernel)
theorem tw_259 : (Jvm.Cond.lays "java/lang/IllegalStateException" "java/lang/Throwable" "cause" "Ljava/lang/Throwable;") ∈ lw_tbl := tw_of 259 (by decide +kernel)
theorem tw_260 : (Jvm.Cond.lays "java/lang/IllegalStateException" "java/lang/Throwable" "stackTrace" "[Ljava/lang/StackTraceElement;") ∈ lw_tbl := tw_of 260 (by decide +kernel)
theorem tw_261 : (Jvm.Cond.lays "java/lang/IllegalStateException" "java/lang/Throwable" "suppressedExceptions" "Ljava/util/List;") ∈ lw_tbl := tw_of 261 (by decide +kernel)
theorem tw_262 : (Jvm.Cond.lays "java/lang/IllegalStateException" "java/lang/Throwable" "detailMessage" "Ljava/lang/String;") ∈ lw_tbl := tw_of 262 (by decide +kernel)
theorem tw_263 : (Jvm.Cond.lays "java/lang/IllegalStateException" "java/lang/Throwable" "backtrace" "Ljava/lang/Object;") ∈ lw_tbl := tw_of 263 (by decide +kernel)
theorem tw_264 : (Jvm.Cond.stringRef "PersonSeeds" (164 : Nat) "not now, or no more of these") ∈ lw_tbl := tw_of 264 (by decide +kernel)
theorem tw_265 : (Jvm.Cond.methodLink "PersonSeeds" (166 : Nat) ({ cls := "java/lang/IllegalStateException", name := "<init>", desc := "(Ljava/lang/String;)V" } : Jvm.MethodName)) ∈ lw_tbl := tw_of 265 (by decide +kernel)
theorem tw_266 : (Jvm.Cond.instanceMethod ({ cls := "java/lang/IllegalStateException", name := "<init>", desc := "(Ljava/lang/String;)V" } : Jvm.MethodName)) ∈ lw_tbl := tw_of 266 (by decide +kernel)
theorem tw_267 : (Jvm.Cond.code ({ cls := "java/lang/IllegalStateException", name := "<init>", desc := "(Ljava/lang/String;)V" } : Jvm.MethodName) prog_10_method_2_code (2 : Nat) (Option.none : Option Jvm.ClassFile.FieldType)) ∈ lw_tbl := tw_of 267 (by decide +kernel)
theorem tw_268 : (Jvm.Cond.methodLink "java/lang/IllegalStateException" (7 : Nat) ({ cls := "java/lang/RuntimeException", name := "<init>", desc := "(Ljava/lang/String;)V" } : Jvm.MethodName)) ∈ lw_tbl := tw_of 268 (by decide +kernel)
theorem tw_269 : (Jvm.Cond.lays "java/lang/IllegalStateException" "java/lang/Throwable" "depth" "I") ∈ lw_tbl := tw_of 269 (by decide +kernel)
theorem tw_270 : (Jvm.Cond.superclass "java/lang/IllegalStateException" "java/lang/RuntimeException") ∈ lw_tbl := tw_of 270 (by decide +kernel)
theorem tw_271 : (Jvm.Cond.methodLinkNest "PersonSeeds" (54 : Nat) ({ cls := "PersonSeeds$Rooms", name := "add", desc := "(I)I" } : Jvm.MethodName) "PersonSeeds") ∈ lw_tbl := tw_of 271 (by decide +kernel)
theorem tw_272 : (Jvm.Cond.privateMethod ({ cls := "PersonSeeds$Rooms", name := "add", desc := "(I)I" } : Jvm.MethodName)) ∈ lw_tbl := tw_of 272 (by decide +kernel)
theorem tw_273 : (Jvm.Cond.instanceMethod ({ cls := "PersonSeeds$Rooms", name := "add", desc := "(I)I" } : Jvm.MethodName)) ∈ lw_tbl := tw_of 273 (by decide +kernel)
theorem tw_274 : (Jvm.Cond.code ({ cls := "PersonSeeds$Rooms", name := "add", desc := "(I)I" } : Jvm.MethodName) prog_4_method_2_code (2 : Nat) (Option.some Jvm.ClassFile.FieldType.int)) ∈ lw_tbl := tw_of 274 (by decide +kernel)
theorem tw_275 : (Jvm.Cond.methodLinkNest "PersonSeeds" (58 : Nat) ({ cls := "PersonSeeds$Persons", name := "plan", desc := "(I)V" } : Jvm.MethodName) "PersonSeeds") ∈ lw_tbl := tw_of 275 (by decide +kernel)
theorem tw_276 : (Jvm.Cond.privateMethod ({ cls := "PersonSeeds$Persons", name := "plan", desc := "(I)V" } : Jvm.MethodName)) ∈ lw_tbl := tw_of 276 (by decide +kernel)
theorem tw_277 : (Jvm.Cond.instanceMethod ({ cls := "PersonSeeds$Persons", name := "plan", desc := "(I)V" } : Jvm.MethodName)) ∈ lw_tbl := tw_of 277 (by decide +kernel)
theorem tw_278 : (Jvm.Cond.code ({ cls := "PersonSeeds$Persons", name := "plan", desc := "(I)V" } : Jvm.MethodName) prog_3_method_3_code (3 : Nat) (Option.none : Option Jvm.ClassFile.FieldType)) ∈ lw_tbl := tw_of 278 (by decide +kernel)
theorem tw_279 : (Jvm.Cond.methodLink "PersonSeeds$Persons" (41 : Nat) ({ cls := "PersonSeeds$Persons", name := "drawn", desc := "(III)I" } : Jvm.MethodName)) ∈ lw_tbl := tw_of 279 (by decide +kernel)
theorem tw_280 : (Jvm.Cond.privateMethod ({ cls := "PersonSeeds$Persons", name := "drawn", desc := "(III)I" } : Jvm.MethodName)) ∈ lw_tbl := tw_of 280 (by decide +kernel)
theorem tw_281 : (Jvm.Cond.instanceMethod ({ cls := "PersonSeeds$Persons", name := "drawn", desc := "(III)I" } : Jvm.MethodName)) ∈ lw_tbl := tw_of 281 (by decide +kernel)
theorem tw_282 : (Jvm.Cond.code ({ cls := "PersonSeeds$Persons", name := "drawn", desc := "(III)I" } : Jvm.MethodName) prog_3_method_4_code (6 : Nat) (Option.some Jvm.ClassFile.FieldType.int)) ∈ lw_tbl := tw_of 282 (by decide +kernel)
theorem tw_283 : (Jvm.Cond.constantLong "PersonSeeds$Persons" (45 : Nat) (-7046029254386353131 : Int64)) ∈ lw_tbl := tw_of 283 (by decide +kernel)
theorem tw_284 : (Jvm.Cond.constantLong "PersonSeeds$Persons" (47 : Nat) (-4658895280553007687 : Int64)) ∈ lw_tbl := tw_of 284 (by decide +kernel)
theorem tw_285 : (Jvm.Cond.constantLong "PersonSeeds$Persons" (49 : Nat) (-7723592293110705685 : Int64)) ∈ lw_tbl := tw_of 285 (by decide +kernel)
theorem tw_286 : (Jvm.Cond.methodLink "PersonSeedsLaw" (79 : Nat) ({ cls := "PersonSeedsLaw", name := "door", desc := "(LPersonSeeds;III[J)I" } : Jvm.MethodName)) ∈ lw_tbl := tw_of 286 (by decide +kernel)
theorem tw_287 : (Jvm.Cond.static ({ cls := "PersonSeedsLaw", name := "door", desc := "(LPersonSeeds;III[J)I" } : Jvm.MethodName)) ∈ lw_tbl := tw_of 287 (by decide +kernel)
theorem tw_288 : (Jvm.Cond.codeWith ({ cls := "PersonSeedsLaw", name := "door", desc := "(LPersonSeeds;III[J)I" } : Jvm.MethodName) method_4_code (6 : Nat) (Option.some Jvm.ClassFile.FieldType.int) [((0 : Nat), (12 : Nat), (15 : Nat), (13 : Nat)), ((0 : Nat), (12 : Nat), (19 : Nat), (15 : Nat))]) ∈ lw_tbl := tw_of 288 (by decide +kernel)
theorem tw_289 : (Jvm.Cond.methodLink "PersonSeedsLaw" (17 : Nat) ({ cls := "PersonSeeds", name := "door", desc := "(III)I" } : Jvm.MethodName)) ∈ lw_tbl := tw_of 289 (by decide +kernel)
theorem tw_290 : (Jvm.Cond.instanceMethod ({ cls := "PersonSeeds", name := "door", desc := "(III)I" } : Jvm.MethodName)) ∈ lw_tbl := tw_of 290 (by decide +kernel)
theorem tw_291 : (Jvm.Cond.selects "PersonSeeds" ({ cls := "PersonSeeds", name := "door", desc := "(III)I" } : Jvm.MethodName) ({ cls := "PersonSeeds", name := "door", desc := "(III)I" } : Jvm.MethodName)) ∈ lw_tbl := tw_of 291 (by decide +kernel)
theorem tw_292 : (Jvm.Cond.code ({ cls := "PersonSeeds", name := "door", desc := "(III)I" } : Jvm.MethodName) prog_1_method_3_code (4 : Nat) (Option.some Jvm.ClassFile.FieldType.int)) ∈ lw_tbl := tw_of 292 (by decide +kernel)
theorem tw_293 : (Jvm.Cond.methodLink "PersonSeeds" (62 : Nat) ({ cls := "PersonSeeds", name := "checkRoom", desc := "(I)V" } : Jvm.MethodName)) ∈ lw_tbl := tw_of 293 (by decide +kernel)
theorem tw_294 : (Jvm.Cond.privateMethod ({ cls := "PersonSeeds", name := "checkRoom", desc := "(I)V" } : Jvm.MethodName)) ∈ lw_tbl := tw_of 294 (by decide +kernel)
theorem tw_295 : (Jvm.Cond.instanceMethod ({ cls := "PersonSeeds", name := "checkRoom", desc := "(I)V" } : Jvm.MethodName)) ∈ lw_tbl := tw_of 295 (by decide +kernel)
theorem tw_296 : (Jvm.Cond.code ({ cls := "PersonSeeds", name := "checkRoom", desc := "(I)V" } : Jvm.MethodName) prog_1_method_17_code (2 : Nat) (Option.none : Option Jvm.ClassFile.FieldType)) ∈ lw_tbl := tw_of 296 (by decide +kernel)
theorem tw_297 : (Jvm.Cond.methodLink "PersonSeeds" (65 : Nat) ({ cls := "PersonSeeds", name := "checkDifferent", desc := "(II)V" } : Jvm.MethodName)) ∈ lw_tbl := tw_of 297 (by decide +kernel)
theorem tw_298 : (Jvm.Cond.static ({ cls := "PersonSeeds", name := "checkDifferent", desc := "(II)V" } : Jvm.MethodName)) ∈ lw_tbl := tw_of 298 (by decide +kernel)
theorem tw_299 : (Jvm.Cond.code ({ cls := "PersonSeeds", name := "checkDifferent", desc := "(II)V" } : Jvm.MethodName) prog_1_method_21_code (2 : Nat) (Option.none : Option Jvm.ClassFile.FieldType)) ∈ lw_tbl := tw_of 299 (by decide +kernel)
theorem tw_300 : (Jvm.Cond.stringRef "PersonSeeds" (160 : Nat) "both are one") ∈ lw_tbl := tw_of 300 (by decide +kernel)
theorem tw_301 : (Jvm.Cond.methodLinkNest "PersonSeeds" (70 : Nat) ({ cls := "PersonSeeds$Doors", name := "add", desc := "(III)I" } : Jvm.MethodName) "PersonSeeds") ∈ lw_tbl := tw_of 301 (by decide +kernel)
theorem tw_302 : (Jvm.Cond.privateMethod ({ cls := "PersonSeeds$Doors", name := "add", desc := "(III)I" } : Jvm.MethodName)) ∈ lw_tbl := tw_of 302 (by decide +kernel)
theorem tw_303 : (Jvm.Cond.instanceMethod ({ cls := "PersonSeeds$Doors", name := "add", desc := "(III)I" } : Jvm.MethodName)) ∈ lw_tbl := tw_of 303 (by decide +kernel)
theorem tw_304 : (Jvm.Cond.code ({ cls := "PersonSeeds$Doors", name := "add", desc := "(III)I" } : Jvm.MethodName) prog_2_method_2_code (4 : Nat) (Option.some Jvm.ClassFile.FieldType.int)) ∈ lw_tbl := tw_of 304 (by decide +kernel)
theorem tw_305 : (Jvm.Cond.methodLink "PersonSeeds$Doors" (43 : Nat) ({ cls := "PersonSeeds$Doors", name := "shortenWays", desc := "(II)V" } : Jvm.MethodName)) ∈ lw_tbl := tw_of 305 (by decide +kernel)
theorem tw_306 : (Jvm.Cond.privateMethod ({ cls := "PersonSeeds$Doors", name := "shortenWays", desc := "(II)V" } : Jvm.MethodName)) ∈ lw_tbl := tw_of 306 (by decide +kernel)
theorem tw_307 : (Jvm.Cond.instanceMethod ({ cls := "PersonSeeds$Doors", name := "shortenWays", desc := "(II)V" } : Jvm.MethodName)) ∈ lw_tbl := tw_of 307 (by decide +kernel)
theorem tw_308 : (Jvm.Cond.code ({ cls := "PersonSeeds$Doors", name := "shortenWays", desc := "(II)V" } : Jvm.MethodName) prog_2_method_3_code (8 : Nat) (Option.none : Option Jvm.ClassFile.FieldType)) ∈ lw_tbl := tw_of 308 (by decide +kernel)
theorem tw_309 : (Jvm.Cond.methodLink "PersonSeeds$Doors" (47 : Nat) ({ cls := "PersonSeeds$Doors", name := "stepsBetween", desc := "(II)I" } : Jvm.MethodName)) ∈ lw_tbl := tw_of 309 (by decide +kernel)
theorem tw_310 : (Jvm.Cond.privateMethod ({ cls := "PersonSeeds$Doors", name := "stepsBetween", desc := "(II)I" } : Jvm.MethodName)) ∈ lw_tbl := tw_of 310 (by decide +kernel)
theorem tw_311 : (Jvm.Cond.instanceMethod ({ cls := "PersonSeeds$Doors", name := "stepsBetween", desc := "(II)I" } : Jvm.MethodName)) ∈ lw_tbl := tw_of 311 (by decide +kernel)
theorem tw_312 : (Jvm.Cond.code ({ cls := "PersonSeeds$Doors", name := "stepsBetween", desc := "(II)I" } : Jvm.MethodName) prog_2_method_4_code (3 : Nat) (Option.some Jvm.ClassFile.FieldType.int)) ∈ lw_tbl := tw_of 312 (by decide +kernel)
theorem tw_313 : (Jvm.Cond.methodLink "PersonSeeds$Doors" (51 : Nat) ({ cls := "java/lang/Math", name := "min", desc := "(II)I" } : Jvm.MethodName)) ∈ lw_tbl := tw_of 313 (by decide +kernel)
theorem tw_314 : (Jvm.Cond.static ({ cls := "java/lang/Math", name := "min", desc := "(II)I" } : Jvm.MethodName)) ∈ lw_tbl := tw_of 314 (by decide +kernel)
theorem tw_315 : (Jvm.Cond.code ({ cls := "java/lang/Math", name := "min", desc := "(II)I" } : Jvm.MethodName) prog_11_method_69_code (2 : Nat) (Option.some Jvm.ClassFile.FieldType.int)) ∈ lw_tbl := tw_of 315 (by decide +kernel)
theorem tw_316 : (Jvm.Cond.methodLink "PersonSeedsLaw" (83 : Nat) ({ cls := "PersonSeedsLaw", name := "arrives", desc := "(LPersonSeeds;II[J)I" } : Jvm.MethodName)) ∈ lw_tbl := tw_of 316 (by decide +kernel)
theorem tw_317 : (Jvm.Cond.static ({ cls := "PersonSeedsLaw", name := "arrives", desc := "(LPersonSeeds;II[J)I" } : Jvm.MethodName)) ∈ lw_tbl := tw_of 317 (by decide +kernel)
theorem tw_318 : (Jvm.Cond.codeWith ({ cls := "PersonSeedsLaw", name := "arrives", desc := "(LPersonSeeds;II[J)I" } : Jvm.MethodName) method_5_code (5 : Nat) (Option.some Jvm.ClassFile.FieldType.int) [((0 : Nat), (10 : Nat), (13 : Nat), (13 : Nat)), ((0 : Nat), (10 : Nat), (17 : Nat), (15 : Nat))]) ∈ lw_tbl := tw_of 318 (by decide +kernel)
theorem tw_319 : (Jvm.Cond.methodLink "PersonSeedsLaw" (21 : Nat) ({ cls := "PersonSeeds", name := "arrives", desc := "(II)I" } : Jvm.MethodName)) ∈ lw_tbl := tw_of 319 (by decide +kernel)
theorem tw_320 : (Jvm.Cond.instanceMethod ({ cls := "PersonSeeds", name := "arrives", desc := "(II)I" } : Jvm.MethodName)) ∈ lw_tbl := tw_of 320 (by decide +kernel)
theorem tw_321 : (Jvm.Cond.selects "PersonSeeds" ({ cls := "PersonSeeds", name := "arrives", desc := "(II)I" } : Jvm.MethodName) ({ cls := "PersonSeeds", name := "arrives", desc := "(II)I" } : Jvm.MethodName)) ∈ lw_tbl := tw_of 321 (by decide +kernel)
theorem tw_322 : (Jvm.Cond.code ({ cls := "PersonSeeds", name := "arrives", desc := "(II)I" } : Jvm.MethodName) prog_1_method_4_code (3 : Nat) (Option.some Jvm.ClassFile.FieldType.int)) ∈ lw_tbl := tw_of 322 (by decide +kernel)
theorem tw_323 : (Jvm.Cond.methodLinkNest "PersonSeeds" (74 : Nat) ({ cls := "PersonSeeds$Persons", name := "add", desc := "(II)V" } : Jvm.MethodName) "PersonSeeds") ∈ lw_tbl := tw_of 323 (by decide +kernel)
theorem tw_324 : (Jvm.Cond.privateMethod ({ cls := "PersonSeeds$Persons", name := "add", desc := "(II)V" } : Jvm.MethodName)) ∈ lw_tbl := tw_of 324 (by decide +kernel)
theorem tw_325 : (Jvm.Cond.instanceMethod ({ cls := "PersonSeeds$Persons", name := "add", desc := "(II)V" } : Jvm.MethodName)) ∈ lw_tbl := tw_of 325 (by decide +kernel)
theorem tw_326 : (Jvm.Cond.code ({ cls := "PersonSeeds$Persons", name := "add", desc := "(II)V" } : Jvm.MethodName) prog_3_method_2_code (5 : Nat) (Option.none : Option Jvm.ClassFile.FieldType)) ∈ lw_tbl := tw_of 326 (by decide +kernel)
theorem tw_327 : (Jvm.Cond.methodLink "PersonSeedsLaw" (87 : Nat) ({ cls := "PersonSeedsLaw", name := "draw", desc := "(LPersonSeeds;III[J)I" } : Jvm.MethodName)) ∈ lw_tbl := tw_of 327 (by decide +kernel)
theorem tw_328 : (Jvm.Cond.static ({ cls := "PersonSeedsLaw", name := "draw", desc := "(LPersonSeeds;III[J)I" } : Jvm.MethodName)) ∈ lw_tbl := tw_of 328 (by decide +kernel)
theorem tw_329 : (Jvm.Cond.codeWith ({ cls := "PersonSeedsLaw", name := "draw", desc := "(LPersonSeeds;III[J)I" } : Jvm.MethodName) method_6_code (6 : Nat) (Option.some Jvm.ClassFile.FieldType.int) [((0 : Nat), (12 : Nat), (15 : Nat), (13 : Nat))]) ∈ lw_tbl := tw_of 329 (by decide +kernel)
theorem tw_330 : (Jvm.Cond.methodLink "PersonSeedsLaw" (25 : Nat) ({ cls := "PersonSeeds", name := "draw", desc := "(III)I" } : Jvm.MethodName)) ∈ lw_tbl := tw_of 330 (by decide +kernel)
theorem tw_331 : (Jvm.Cond.instanceMethod ({ cls := "PersonSeeds", name := "draw", desc := "(III)I" } : Jvm.MethodName)) ∈ lw_tbl := tw_of 331 (by decide +kernel)
theorem tw_332 : (Jvm.Cond.selects "PersonSeeds" ({ cls := "PersonSeeds", name := "draw", desc := "(III)I" } : Jvm.MethodName) ({ cls := "PersonSeeds", name := "draw", desc := "(III)I" } : Jvm.MethodName)) ∈ lw_tbl := tw_of 332 (by decide +kernel)
theorem tw_333 : (Jvm.Cond.code ({ cls := "PersonSeeds", name := "draw", desc := "(III)I" } : Jvm.MethodName) prog_1_method_5_code (4 : Nat) (Option.some Jvm.ClassFile.FieldType.int)) ∈ lw_tbl := tw_of 333 (by decide +kernel)
theorem tw_334 : (Jvm.Cond.constant "PersonSeeds" (76 : Nat) (1000000 : Int32)) ∈ lw_tbl := tw_of 334 (by decide +kernel)
theorem tw_335 : (Jvm.Cond.methodLinkNest "PersonSeeds" (77 : Nat) ({ cls := "PersonSeeds$Persons", name := "drawn", desc := "(III)I" } : Jvm.MethodName) "PersonSeeds") ∈ lw_tbl := tw_of 335 (by decide +kernel)
theorem tw_336 : (Jvm.Cond.methodLink "PersonSeedsLaw" (90 : Nat) ({ cls := "PersonSeedsLaw", name := "run", desc := "(LPersonSeeds;I[J)I" } : Jvm.MethodName)) ∈ lw_tbl := tw_of 336 (by decide +kernel)
theorem tw_337 : (Jvm.Cond.static ({ cls := "PersonSeedsLaw", name := "run", desc := "(LPersonSeeds;I[J)I" } : Jvm.MethodName)) ∈ lw_tbl := tw_of 337 (by decide +kernel)
theorem tw_338 : (Jvm.Cond.codeWith ({ cls := "PersonSeedsLaw", name := "run", desc := "(LPersonSeeds;I[J)I" } : Jvm.MethodName) method_7_code (4 : Nat) (Option.some Jvm.ClassFile.FieldType.int) [((0 : Nat), (9 : Nat), (12 : Nat), (13 : Nat)), ((0 : Nat), (9 : Nat), (15 : Nat), (15 : Nat))]) ∈ lw_tbl := tw_of 338 (by decide +kernel)
theorem tw_339 : (Jvm.Cond.methodLink "PersonSeedsLaw" (28 : Nat) ({ cls := "PersonSeeds", name := "run", desc := "(I)I" } : Jvm.MethodName)) ∈ lw_tbl := tw_of 339 (by decide +kernel)
theorem tw_340 : (Jvm.Cond.instanceMethod ({ cls := "PersonSeeds", name := "run", desc := "(I)I" } : Jvm.MethodName)) ∈ lw_tbl := tw_of 340 (by decide +kernel)
theorem tw_341 : (Jvm.Cond.selects "PersonSeeds" ({ cls := "PersonSeeds", name := "run", desc := "(I)I" } : Jvm.MethodName) ({ cls := "PersonSeeds", name := "run", desc := "(I)I" } : Jvm.MethodName)) ∈ lw_tbl := tw_of 341 (by decide +kernel)
theorem tw_342 : (Jvm.Cond.code ({ cls := "PersonSeeds", name := "run", desc := "(I)I" } : Jvm.MethodName) prog_1_method_6_code (3 : Nat) (Option.some Jvm.ClassFile.FieldType.int)) ∈ lw_tbl := tw_of 342 (by decide +kernel)
theorem tw_343 : (Jvm.Cond.methodLink "PersonSeeds" (80 : Nat) ({ cls := "PersonSeeds", name := "passMinute", desc := "()V" } : Jvm.MethodName)) ∈ lw_tbl := tw_of 343 (by decide +kernel)
theorem tw_344 : (Jvm.Cond.privateMethod ({ cls := "PersonSeeds", name := "passMinute", desc := "()V" } : Jvm.MethodName)) ∈ lw_tbl := tw_of 344 (by decide +kernel)
theorem tw_345 : (Jvm.Cond.instanceMethod ({ cls := "PersonSeeds", name := "passMinute", desc := "()V" } : Jvm.MethodName)) ∈ lw_tbl := tw_of 345 (by decide +kernel)
theorem tw_346 : (Jvm.Cond.code ({ cls := "PersonSeeds", name := "passMinute", desc := "()V" } : Jvm.MethodName) prog_1_method_23_code (2 : Nat) (Option.none : Option Jvm.ClassFile.FieldType)) ∈ lw_tbl := tw_of 346 (by decide +kernel)
theorem tw_347 : (Jvm.Cond.methodLinkNest "PersonSeeds" (167 : Nat) ({ cls := "PersonSeeds$Doors", name := "beginMinute", desc := "()V" } : Jvm.MethodName) "PersonSeeds") ∈ lw_tbl := tw_of 347 (by decide +kernel)
theorem tw_348 : (Jvm.Cond.privateMethod ({ cls := "PersonSeeds$Doors", name := "beginMinute", desc := "()V" } : Jvm.MethodName)) ∈ lw_tbl := tw_of 348 (by decide +kernel)
theorem tw_349 : (Jvm.Cond.instanceMethod ({ cls := "PersonSeeds$Doors", name := "beginMinute", desc := "()V" } : Jvm.MethodName)) ∈ lw_tbl := tw_of 349 (by decide +kernel)
theorem tw_350 : (Jvm.Cond.code ({ cls := "PersonSeeds$Doors", name := "beginMinute", desc := "()V" } : Jvm.MethodName) prog_2_method_7_code (1 : Nat) (Option.none : Option Jvm.ClassFile.FieldType)) ∈ lw_tbl := tw_of 350 (by decide +kernel)
theorem tw_351 : (Jvm.Cond.methodLink "PersonSeeds" (170 : Nat) ({ cls := "PersonSeeds", name := "tryStep", desc := "(I)V" } : Jvm.MethodName)) ∈ lw_tbl := tw_of 351 (by decide +kernel)
theorem tw_352 : (Jvm.Cond.privateMethod ({ cls := "PersonSeeds", name := "tryStep", desc := "(I)V" } : Jvm.MethodName)) ∈ lw_tbl := tw_of 352 (by decide +kernel)
theorem tw_353 : (Jvm.Cond.instanceMethod ({ cls := "PersonSeeds", name := "tryStep", desc := "(I)V" } : Jvm.MethodName)) ∈ lw_tbl := tw_of 353 (by decide +kernel)
theorem tw_354 : (Jvm.Cond.code ({ cls := "PersonSeeds", name := "tryStep", desc := "(I)V" } : Jvm.MethodName) prog_1_method_24_code (4 : Nat) (Option.none : Option Jvm.ClassFile.FieldType)) ∈ lw_tbl := tw_of 354 (by decide +kernel)
theorem tw_355 : (Jvm.Cond.methodLinkNest "PersonSeeds" (111 : Nat) ({ cls := "PersonSeeds$Trails", name := "placeNow", desc := "(I)I" } : Jvm.MethodName) "PersonSeeds") ∈ lw_tbl := tw_of 355 (by decide +kernel)
theorem tw_356 : (Jvm.Cond.privateMethod ({ cls := "PersonSeeds$Trails", name := "placeNow", desc := "(I)I" } : Jvm.MethodName)) ∈ lw_tbl := tw_of 356 (by decide +kernel)
theorem tw_357 : (Jvm.Cond.instanceMethod ({ cls := "PersonSeeds$Trails", name := "placeNow", desc := "(I)I" } : Jvm.MethodName)) ∈ lw_tbl := tw_of 357 (by decide +kernel)
theorem tw_358 : (Jvm.Cond.code ({ cls := "PersonSeeds$Trails", name := "placeNow", desc := "(I)I" } : Jvm.MethodName) prog_5_method_3_code (2 : Nat) (Option.some Jvm.ClassFile.FieldType.int)) ∈ lw_tbl := tw_of 358 (by decide +kernel)
theorem tw_359 : (Jvm.Cond.methodLinkNest "PersonSeeds" (176 : Nat) ({ cls := "PersonSeeds$Persons", name := "wants", desc := "(II)I" } : Jvm.MethodName) "PersonSeeds") ∈ lw_tbl := tw_of 359 (by decide +kernel)
theorem tw_360 : (Jvm.Cond.privateMethod ({ cls := "PersonSeeds$Persons", name := "wants", desc := "(II)I" } : Jvm.MethodName)) ∈ lw_tbl := tw_of 360 (by decide +kernel)
theorem tw_361 : (Jvm.Cond.instanceMethod ({ cls := "PersonSeeds$Persons", name := "wants", desc := "(II)I" } : Jvm.MethodName)) ∈ lw_tbl := tw_of 361 (by decide +kernel)
theorem tw_362 : (Jvm.Cond.code ({ cls := "PersonSeeds$Persons", name := "wants", desc := "(II)I" } : Jvm.MethodName) prog_3_method_5_code (3 : Nat) (Option.some Jvm.ClassFile.FieldType.int)) ∈ lw_tbl := tw_of 362 (by decide +kernel)
theorem tw_363 : (Jvm.Cond.methodLink "PersonSeeds" (179 : Nat) ({ cls := "PersonSeeds", name := "tryEntrance", desc := "(I)V" } : Jvm.MethodName)) ∈ lw_tbl := tw_of 363 (by decide +kernel)
theorem tw_364 : (Jvm.Cond.privateMethod ({ cls := "PersonSeeds", name := "tryEntrance", desc := "(I)V" } : Jvm.MethodName)) ∈ lw_tbl := tw_of 364 (by decide +kernel)
theorem tw_365 : (Jvm.Cond.instanceMethod ({ cls := "PersonSeeds", name := "tryEntrance", desc := "(I)V" } : Jvm.MethodName)) ∈ lw_tbl := tw_of 365 (by decide +kernel)
theorem tw_366 : (Jvm.Cond.code ({ cls := "PersonSeeds", name := "tryEntrance", desc := "(I)V" } : Jvm.MethodName) prog_1_method_25_code (2 : Nat) (Option.none : Option Jvm.ClassFile.FieldType)) ∈ lw_tbl := tw_of 366 (by decide +kernel)
theorem tw_367 : (Jvm.Cond.methodLinkNest "PersonSeeds" (188 : Nat) ({ cls := "PersonSeeds$Rooms", name := "hasSpace", desc := "(I)Z" } : Jvm.MethodName) "PersonSeeds") ∈ lw_tbl := tw_of 367 (by decide +kernel)
theorem tw_368 : (Jvm.Cond.privateMethod ({ cls := "PersonSeeds$Rooms", name := "hasSpace", desc := "(I)Z" } : Jvm.MethodName)) ∈ lw_tbl := tw_of 368 (by decide +kernel)
theorem tw_369 : (Jvm.Cond.instanceMethod ({ cls := "PersonSeeds$Rooms", name := "hasSpace", desc := "(I)Z" } : Jvm.MethodName)) ∈ lw_tbl := tw_of 369 (by decide +kernel)
theorem tw_370 : (Jvm.Cond.code ({ cls := "PersonSeeds$Rooms", name := "hasSpace", desc := "(I)Z" } : Jvm.MethodName) prog_4_method_3_code (2 : Nat) (Option.some Jvm.ClassFile.FieldType.boolean)) ∈ lw_tbl := tw_of 370 (by decide +kernel)
theorem tw_371 : (Jvm.Cond.methodLinkNest "PersonSeeds" (192 : Nat) ({ cls := "PersonSeeds$Trails", name := "add", desc := "(III)V" } : Jvm.MethodName) "PersonSeeds") ∈ lw_tbl := tw_of 371 (by decide +kernel)
theorem tw_372 : (Jvm.Cond.privateMethod ({ cls := "PersonSeeds$Trails", name := "add", desc := "(III)V" } : Jvm.MethodName)) ∈ lw_tbl := tw_of 372 (by decide +kernel)
theorem tw_373 : (Jvm.Cond.instanceMethod ({ cls := "PersonSeeds$Trails", name := "add", desc := "(III)V" } : Jvm.MethodName)) ∈ lw_tbl := tw_of 373 (by decide +kernel)
theorem tw_374 : (Jvm.Cond.code ({ cls := "PersonSeeds$Trails", name := "add", desc := "(III)V" } : Jvm.MethodName) prog_5_method_2_code (5 : Nat) (Option.none : Option Jvm.ClassFile.FieldType)) ∈ lw_tbl := tw_of 374 (by decide +kernel)
theorem tw_375 : (Jvm.Cond.methodLink "PersonSeeds" (182 : Nat) ({ cls := "PersonSeeds", name := "tryDoor", desc := "(III)V" } : Jvm.MethodName)) ∈ lw_tbl := tw_of 375 (by decide +kernel)
theorem tw_376 : (Jvm.Cond.privateMethod ({ cls := "PersonSeeds", name := "tryDoor", desc := "(III)V" } : Jvm.MethodName)) ∈ lw_tbl := tw_of 376 (by decide +kernel)
theorem tw_377 : (Jvm.Cond.instanceMethod ({ cls := "PersonSeeds", name := "tryDoor", desc := "(III)V" } : Jvm.MethodName)) ∈ lw_tbl := tw_of 377 (by decide +kernel)
theorem tw_378 : (Jvm.Cond.code ({ cls := "PersonSeeds", name := "tryDoor", desc := "(III)V" } : Jvm.MethodName) prog_1_method_27_code (6 : Nat) (Option.none : Option Jvm.ClassFile.FieldType)) ∈ lw_tbl := tw_of 378 (by decide +kernel)
theorem tw_379 : (Jvm.Cond.methodLinkNest "PersonSeeds" (194 : Nat) ({ cls := "PersonSeeds$Doors", name := "towards", desc := "(II)I" } : Jvm.MethodName) "PersonSeeds") ∈ lw_tbl := tw_of 379 (by decide +kernel)
theorem tw_380 : (Jvm.Cond.privateMethod ({ cls := "PersonSeeds$Doors", name := "towards", desc := "(II)I" } : Jvm.MethodName)) ∈ lw_tbl := tw_of 380 (by decide +kernel)
theorem tw_381 : (Jvm.Cond.instanceMethod ({ cls := "PersonSeeds$Doors", name := "towards", desc := "(II)I" } : Jvm.MethodName)) ∈ lw_tbl := tw_of 381 (by decide +kernel)
theorem tw_382 : (Jvm.Cond.code ({ cls := "PersonSeeds$Doors", name := "towards", desc := "(II)I" } : Jvm.MethodName) prog_2_method_6_code (6 : Nat) (Option.some Jvm.ClassFile.FieldType.int)) ∈ lw_tbl := tw_of 382 (by decide +kernel)
theorem tw_383 : (Jvm.Cond.methodLink "PersonSeeds$Doors" (56 : Nat) ({ cls := "PersonSeeds$Doors", name := "behind", desc := "(II)I" } : Jvm.MethodName)) ∈ lw_tbl := tw_of 383 (by decide +kernel)
theorem tw_384 : (Jvm.Cond.privateMethod ({ cls := "PersonSeeds$Doors", name := "behind", desc := "(II)I" } : Jvm.MethodName)) ∈ lw_tbl := tw_of 384 (by decide +kernel)
theorem tw_385 : (Jvm.Cond.instanceMethod ({ cls := "PersonSeeds$Doors", name := "behind", desc := "(II)I" } : Jvm.MethodName)) ∈ lw_tbl := tw_of 385 (by decide +kernel)
theorem tw_386 : (Jvm.Cond.code ({ cls := "PersonSeeds$Doors", name := "behind", desc := "(II)I" } : Jvm.MethodName) prog_2_method_5_code (3 : Nat) (Option.some Jvm.ClassFile.FieldType.int)) ∈ lw_tbl := tw_of 386 (by decide +kernel)
theorem tw_387 : (Jvm.Cond.methodLinkNest "PersonSeeds" (197 : Nat) ({ cls := "PersonSeeds$Doors", name := "behind", desc := "(II)I" } : Jvm.MethodName) "PersonSeeds") ∈ lw_tbl := tw_of 387 (by decide +kernel)
theorem tw_388 : (Jvm.Cond.methodLinkNest "PersonSeeds" (200 : Nat) ({ cls := "PersonSeeds$Doors", name := "isFree", desc := "(I)Z" } : Jvm.MethodName) "PersonSeeds") ∈ lw_tbl := tw_of 388 (by decide +kernel)
theorem tw_389 : (Jvm.Cond.privateMethod ({ cls := "PersonSeeds$Doors", name := "isFree", desc := "(I)Z" } : Jvm.MethodName)) ∈ lw_tbl := tw_of 389 (by decide +kernel)
theorem tw_390 : (Jvm.Cond.instanceMethod ({ cls := "PersonSeeds$Doors", name := "isFree", desc := "(I)Z" } : Jvm.MethodName)) ∈ lw_tbl := tw_of 390 (by decide +kernel)
theorem tw_391 : (Jvm.Cond.code ({ cls := "PersonSeeds$Doors", name := "isFree", desc := "(I)Z" } : Jvm.MethodName) prog_2_method_8_code (2 : Nat) (Option.some Jvm.ClassFile.FieldType.boolean)) ∈ lw_tbl := tw_of 391 (by decide +kernel)
theorem tw_392 : (Jvm.Cond.methodLinkNest "PersonSeeds" (203 : Nat) ({ cls := "PersonSeeds$Doors", name := "pass", desc := "(II)V" } : Jvm.MethodName) "PersonSeeds") ∈ lw_tbl := tw_of 392 (by decide +kernel)
theorem tw_393 : (Jvm.Cond.privateMethod ({ cls := "PersonSeeds$Doors", name := "pass", desc := "(II)V" } : Jvm.MethodName)) ∈ lw_tbl := tw_of 393 (by decide +kernel)
theorem tw_394 : (Jvm.Cond.instanceMethod ({ cls := "PersonSeeds$Doors", name := "pass", desc := "(II)V" } : Jvm.MethodName)) ∈ lw_tbl := tw_of 394 (by decide +kernel)
theorem tw_395 : (Jvm.Cond.code ({ cls := "PersonSeeds$Doors", name := "pass", desc := "(II)V" } : Jvm.MethodName) prog_2_method_9_code (3 : Nat) (Option.none : Option Jvm.ClassFile.FieldType)) ∈ lw_tbl := tw_of 395 (by decide +kernel)
theorem tw_396 : (Jvm.Cond.methodLink "PersonSeeds" (185 : Nat) ({ cls := "PersonSeeds", name := "goOut", desc := "(I)V" } : Jvm.MethodName)) ∈ lw_tbl := tw_of 396 (by decide +kernel)
theorem tw_397 : (Jvm.Cond.privateMethod ({ cls := "PersonSeeds", name := "goOut", desc := "(I)V" } : Jvm.MethodName)) ∈ lw_tbl := tw_of 397 (by decide +kernel)
theorem tw_398 : (Jvm.Cond.instanceMethod ({ cls := "PersonSeeds", name := "goOut", desc := "(I)V" } : Jvm.MethodName)) ∈ lw_tbl := tw_of 398 (by decide +kernel)
theorem tw_399 : (Jvm.Cond.code ({ cls := "PersonSeeds", name := "goOut", desc := "(I)V" } : Jvm.MethodName) prog_1_method_26_code (2 : Nat) (Option.none : Option Jvm.ClassFile.FieldType)) ∈ lw_tbl := tw_of 399 (by decide +kernel)
theorem tw_400 : (Jvm.Cond.methodLinkNest "PersonSeeds" (173 : Nat) ({ cls := "PersonSeeds$Rooms", name := "endMinute", desc := "()V" } : Jvm.MethodName) "PersonSeeds") ∈ lw_tbl := tw_of 400 (by decide +kernel)
theorem tw_401 : (Jvm.Cond.privateMethod ({ cls := "PersonSeeds$Rooms", name := "endMinute", desc := "()V" } : Jvm.MethodName)) ∈ lw_tbl := tw_of 401 (by decide +kernel)
theorem tw_402 : (Jvm.Cond.instanceMethod ({ cls := "PersonSeeds$Rooms", name := "endMinute", desc := "()V" } : Jvm.MethodName)) ∈ lw_tbl := tw_of 402 (by decide +kernel)
theorem tw_403 : (Jvm.Cond.code ({ cls := "PersonSeeds$Rooms", name := "endMinute", desc := "()V" } : Jvm.MethodName) prog_4_method_4_code (2 : Nat) (Option.none : Option Jvm.ClassFile.FieldType)) ∈ lw_tbl := tw_of 403 (by decide +kernel)
theorem tw_404 : (Jvm.Cond.methodLink "PersonSeeds$Rooms" (28 : Nat) ({ cls := "java/lang/Math", name := "max", desc := "(II)I" } : Jvm.MethodName)) ∈ lw_tbl := tw_of 404 (by decide +kernel)
theorem tw_405 : (Jvm.Cond.static ({ cls := "java/lang/Math", name := "max", desc := "(II)I" } : Jvm.MethodName)) ∈ lw_tbl := tw_of 405 (by decide +kernel)
theorem tw_406 : (Jvm.Cond.code ({ cls := "java/lang/Math", name := "max", desc := "(II)I" } : Jvm.MethodName) prog_11_method_65_code (2 : Nat) (Option.some Jvm.ClassFile.FieldType.int)) ∈ lw_tbl := tw_of 406 (by decide +kernel)
theorem tw_407 : (Jvm.Cond.methodLink "PersonSeeds$Rooms" (34 : Nat) ({ cls := "PersonSeeds$Rooms", name := "hasSpace", desc := "(I)Z" } : Jvm.MethodName)) ∈ lw_tbl := tw_of 407 (by decide +kernel)
theorem tw_408 : (Jvm.Cond.methodLink "PersonSeedsLaw" (93 : Nat) ({ cls := "PersonSeedsLaw", name := "person", desc := "(LPersonSeeds;II[J)I" } : Jvm.MethodName)) ∈ lw_tbl := tw_of 408 (by decide +kernel)
theorem tw_409 : (Jvm.Cond.static ({ cls := "PersonSeedsLaw", name := "person", desc := "(LPersonSeeds;II[J)I" } : Jvm.MethodName)) ∈ lw_tbl := tw_of 409 (by decide +kernel)
theorem tw_410 : (Jvm.Cond.codeWith ({ cls := "PersonSeedsLaw", name := "person", desc := "(LPersonSeeds;II[J)I" } : Jvm.MethodName) method_8_code (5 : Nat) (Option.some Jvm.ClassFile.FieldType.int) [((0 : Nat), (10 : Nat), (13 : Nat), (13 : Nat))]) ∈ lw_tbl := tw_of 410 (by decide +kernel)
theorem tw_411 : (Jvm.Cond.methodLink "PersonSeedsLaw" (31 : Nat) ({ cls := "PersonSeeds", name := "person", desc := "(II)I" } : Jvm.MethodName)) ∈ lw_tbl := tw_of 411 (by decide +kernel)
theorem tw_412 : (Jvm.Cond.instanceMethod ({ cls := "PersonSeeds", name := "person", desc := "(II)I" } : Jvm.MethodName)) ∈ lw_tbl := tw_of 412 (by decide +kernel)
theorem tw_413 : (Jvm.Cond.selects "PersonSeeds" ({ cls := "PersonSeeds", name := "person", desc := "(II)I" } : Jvm.MethodName) ({ cls := "PersonSeeds", name := "person", desc := "(II)I" } : Jvm.MethodName)) ∈ lw_tbl := tw_of 413 (by decide +kernel)
theorem tw_414 : (Jvm.Cond.code ({ cls := "PersonSeeds", name := "person", desc := "(II)I" } : Jvm.MethodName) prog_1_method_7_code (3 : Nat) (Option.some Jvm.ClassFile.FieldType.int)) ∈ lw_tbl := tw_of 414 (by decide +kernel)
theorem tw_415 : (Jvm.Cond.methodLink "PersonSeeds" (89 : Nat) ({ cls := "PersonSeeds", name := "checkPerson", desc := "(I)V" } : Jvm.MethodName)) ∈ lw_tbl := tw_of 415 (by decide +kernel)
theorem tw_416 : (Jvm.Cond.privateMethod ({ cls := "PersonSeeds", name := "checkPerson", desc := "(I)V" } : Jvm.MethodName)) ∈ lw_tbl := tw_of 416 (by decide +kernel)
theorem tw_417 : (Jvm.Cond.instanceMethod ({ cls := "PersonSeeds", name := "checkPerson", desc := "(I)V" } : Jvm.MethodName)) ∈ lw_tbl := tw_of 417 (by decide +kernel)
theorem tw_418 : (Jvm.Cond.code ({ cls := "PersonSeeds", name := "checkPerson", desc := "(I)V" } : Jvm.MethodName) prog_1_method_18_code (2 : Nat) (Option.none : Option Jvm.ClassFile.FieldType)) ∈ lw_tbl := tw_of 418 (by decide +kernel)
theorem tw_419 : (Jvm.Cond.methodLink "PersonSeedsLaw" (96 : Nat) ({ cls := "PersonSeedsLaw", name := "at", desc := "(LPersonSeeds;I[J)I" } : Jvm.MethodName)) ∈ lw_tbl := tw_of 419 (by decide +kernel)
theorem tw_420 : (Jvm.Cond.static ({ cls := "PersonSeedsLaw", name := "at", desc := "(LPersonSeeds;I[J)I" } : Jvm.MethodName)) ∈ lw_tbl := tw_of 420 (by decide +kernel)
theorem tw_421 : (Jvm.Cond.codeWith ({ cls := "PersonSeedsLaw", name := "at", desc := "(LPersonSeeds;I[J)I" } : Jvm.MethodName) method_9_code (4 : Nat) (Option.some Jvm.ClassFile.FieldType.int) [((0 : Nat), (9 : Nat), (12 : Nat), (13 : Nat))]) ∈ lw_tbl := tw_of 421 (by decide +kernel)
theorem tw_422 : (Jvm.Cond.methodLink "PersonSeedsLaw" (34 : Nat) ({ cls := "PersonSeeds", name := "at", desc := "(I)I" } : Jvm.MethodName)) ∈ lw_tbl := tw_of 422 (by decide +kernel)
theorem tw_423 : (Jvm.Cond.instanceMethod ({ cls := "PersonSeeds", name := "at", desc := "(I)I" } : Jvm.MethodName)) ∈ lw_tbl := tw_of 423 (by decide +kernel)
theorem tw_424 : (Jvm.Cond.selects "PersonSeeds" ({ cls := "PersonSeeds", name := "at", desc := "(I)I" } : Jvm.MethodName) ({ cls := "PersonSeeds", name := "at", desc := "(I)I" } : Jvm.MethodName)) ∈ lw_tbl := tw_of 424 (by decide +kernel)
theorem tw_425 : (Jvm.Cond.code ({ cls := "PersonSeeds", name := "at", desc := "(I)I" } : Jvm.MethodName) prog_1_method_8_code (2 : Nat) (Option.some Jvm.ClassFile.FieldType.int)) ∈ lw_tbl := tw_of 425 (by decide +kernel)
theorem tw_426 : (Jvm.Cond.methodLink "PersonSeedsLaw" (99 : Nat) ({ cls := "PersonSeedsLaw", name := "was", desc := "(LPersonSeeds;II[J)I" } : Jvm.MethodName)) ∈ lw_tbl := tw_of 426 (by decide +kernel)
theorem tw_427 : (Jvm.Cond.static ({ cls := "PersonSeedsLaw", name := "was", desc := "(LPersonSeeds;II[J)I" } : Jvm.MethodName)) ∈ lw_tbl := tw_of 427 (by decide +kernel)
theorem tw_428 : (Jvm.Cond.codeWith ({ cls := "PersonSeedsLaw", name := "was", desc := "(LPersonSeeds;II[J)I" } : Jvm.MethodName) method_10_code (5 : Nat) (Option.some Jvm.ClassFile.FieldType.int) [((0 : Nat), (10 : Nat), (13 : Nat), (13 : Nat))]) ∈ lw_tbl := tw_of 428 (by decide +kernel)
theorem tw_429 : (Jvm.Cond.methodLink "PersonSeedsLaw" (37 : Nat) ({ cls := "PersonSeeds", name := "was", desc := "(II)I" } : Jvm.MethodName)) ∈ lw_tbl := tw_of 429 (by decide +kernel)
theorem tw_430 : (Jvm.Cond.instanceMethod ({ cls := "PersonSeeds", name := "was", desc := "(II)I" } : Jvm.MethodName)) ∈ lw_tbl := tw_of 430 (by decide +kernel)
theorem tw_431 : (Jvm.Cond.selects "PersonSeeds" ({ cls := "PersonSeeds", name := "was", desc := "(II)I" } : Jvm.MethodName) ({ cls := "PersonSeeds", name := "was", desc := "(II)I" } : Jvm.MethodName)) ∈ lw_tbl := tw_of 431 (by decide +kernel)
theorem tw_432 : (Jvm.Cond.code ({ cls := "PersonSeeds", name := "was", desc := "(II)I" } : Jvm.MethodName) prog_1_method_9_code (3 : Nat) (Option.some Jvm.ClassFile.FieldType.int)) ∈ lw_tbl := tw_of 432 (by decide +kernel)
theorem tw_433 : (Jvm.Cond.methodLink "PersonSeeds" (114 : Nat) ({ cls := "PersonSeeds", name := "checkOver", desc := "(I)V" } : Jvm.MethodName)) ∈ lw_tbl := tw_of 433 (by decide +kernel)
theorem tw_434 : (Jvm.Cond.privateMethod ({ cls := "PersonSeeds", name := "checkOver", desc := "(I)V" } : Jvm.MethodName)) ∈ lw_tbl := tw_of 434 (by decide +kernel)
theorem tw_435 : (Jvm.Cond.instanceMethod ({ cls := "PersonSeeds", name := "checkOver", desc := "(I)V" } : Jvm.MethodName)) ∈ lw_tbl := tw_of 435 (by decide +kernel)
theorem tw_436 : (Jvm.Cond.code ({ cls := "PersonSeeds", name := "checkOver", desc := "(I)V" } : Jvm.MethodName) prog_1_method_19_code (2 : Nat) (Option.none : Option Jvm.ClassFile.FieldType)) ∈ lw_tbl := tw_of 436 (by decide +kernel)
theorem tw_437 : (Jvm.Cond.methodLinkNest "PersonSeeds" (117 : Nat) ({ cls := "PersonSeeds$Trails", name := "placeBehind", desc := "(II)I" } : Jvm.MethodName) "PersonSeeds") ∈ lw_tbl := tw_of 437 (by decide +kernel)
theorem tw_438 : (Jvm.Cond.privateMethod ({ cls := "PersonSeeds$Trails", name := "placeBehind", desc := "(II)I" } : Jvm.MethodName)) ∈ lw_tbl := tw_of 438 (by decide +kernel)
theorem tw_439 : (Jvm.Cond.instanceMethod ({ cls := "PersonSeeds$Trails", name := "placeBehind", desc := "(II)I" } : Jvm.MethodName)) ∈ lw_tbl := tw_of 439 (by decide +kernel)
theorem tw_440 : (Jvm.Cond.code ({ cls := "PersonSeeds$Trails", name := "placeBehind", desc := "(II)I" } : Jvm.MethodName) prog_5_method_4_code (4 : Nat) (Option.some Jvm.ClassFile.FieldType.int)) ∈ lw_tbl := tw_of 440 (by decide +kernel)
theorem tw_441 : (Jvm.Cond.methodLink "PersonSeedsLaw" (102 : Nat) ({ cls := "PersonSeedsLaw", name := "waited", desc := "(LPersonSeeds;I[J)I" } : Jvm.MethodName)) ∈ lw_tbl := tw_of 441 (by decide +kernel)
theorem tw_442 : (Jvm.Cond.static ({ cls := "PersonSeedsLaw", name := "waited", desc := "(LPersonSeeds;I[J)I" } : Jvm.MethodName)) ∈ lw_tbl := tw_of 442 (by decide +kernel)
theorem tw_443 : (Jvm.Cond.codeWith ({ cls := "PersonSeedsLaw", name := "waited", desc := "(LPersonSeeds;I[J)I" } : Jvm.MethodName) method_11_code (4 : Nat) (Option.some Jvm.ClassFile.FieldType.int) [((0 : Nat), (9 : Nat), (12 : Nat), (13 : Nat))]) ∈ lw_tbl := tw_of 443 (by decide +kernel)
theorem tw_444 : (Jvm.Cond.methodLink "PersonSeedsLaw" (40 : Nat) ({ cls := "PersonSeeds", name := "waited", desc := "(I)I" } : Jvm.MethodName)) ∈ lw_tbl := tw_of 444 (by decide +kernel)
theorem tw_445 : (Jvm.Cond.instanceMethod ({ cls := "PersonSeeds", name := "waited", desc := "(I)I" } : Jvm.MethodName)) ∈ lw_tbl := tw_of 445 (by decide +kernel)
theorem tw_446 : (Jvm.Cond.selects "PersonSeeds" ({ cls := "PersonSeeds", name := "waited", desc := "(I)I" } : Jvm.MethodName) ({ cls := "PersonSeeds", name := "waited", desc := "(I)I" } : Jvm.MethodName)) ∈ lw_tbl := tw_of 446 (by decide +kernel)
theorem tw_447 : (Jvm.Cond.code ({ cls := "PersonSeeds", name := "waited", desc := "(I)I" } : Jvm.MethodName) prog_1_method_10_code (2 : Nat) (Option.some Jvm.ClassFile.FieldType.int)) ∈ lw_tbl := tw_of 447 (by decide +kernel)
theorem tw_448 : (Jvm.Cond.methodLink "PersonSeedsLaw" (105 : Nat) ({ cls := "PersonSeedsLaw", name := "in", desc := "(LPersonSeeds;II[J)I" } : Jvm.MethodName)) ∈ lw_tbl := tw_of 448 (by decide +kernel)
theorem tw_449 : (Jvm.Cond.static ({ cls := "PersonSeedsLaw", name := "in", desc := "(LPersonSeeds;II[J)I" } : Jvm.MethodName)) ∈ lw_tbl := tw_of 449 (by decide +kernel)
theorem tw_450 : (Jvm.Cond.codeWith ({ cls := "PersonSeedsLaw", name := "in", desc := "(LPersonSeeds;II[J)I" } : Jvm.MethodName) method_12_code (5 : Nat) (Option.some Jvm.ClassFile.FieldType.int) [((0 : Nat), (10 : Nat), (13 : Nat), (13 : Nat))]) ∈ lw_tbl := tw_of 450 (by decide +kernel)
theorem tw_451 : (Jvm.Cond.methodLink "PersonSeedsLaw" (43 : Nat) ({ cls := "PersonSeeds", name := "in", desc := "(II)I" } : Jvm.MethodName)) ∈ lw_tbl := tw_of 451 (by decide +kernel)
theorem tw_452 : (Jvm.Cond.instanceMethod ({ cls := "PersonSeeds", name := "in", desc := "(II)I" } : Jvm.MethodName)) ∈ lw_tbl := tw_of 452 (by decide +kernel)
theorem tw_453 : (Jvm.Cond.selects "PersonSeeds" ({ cls := "PersonSeeds", name := "in", desc := "(II)I" } : Jvm.MethodName) ({ cls := "PersonSeeds", name := "in", desc := "(II)I" } : Jvm.MethodName)) ∈ lw_tbl := tw_of 453 (by decide +kernel)
theorem tw_454 : (Jvm.Cond.code ({ cls := "PersonSeeds", name := "in", desc := "(II)I" } : Jvm.MethodName) prog_1_method_11_code (3 : Nat) (Option.some Jvm.ClassFile.FieldType.int)) ∈ lw_tbl := tw_of 454 (by decide +kernel)
theorem tw_455 : (Jvm.Cond.methodLink "PersonSeedsLaw" (108 : Nat) ({ cls := "PersonSeedsLaw", name := "inThen", desc := "(LPersonSeeds;II[J)I" } : Jvm.MethodName)) ∈ lw_tbl := tw_of 455 (by decide +kernel)
theorem tw_456 : (Jvm.Cond.static ({ cls := "PersonSeedsLaw", name := "inThen", desc := "(LPersonSeeds;II[J)I" } : Jvm.MethodName)) ∈ lw_tbl := tw_of 456 (by decide +kernel)
theorem tw_457 : (Jvm.Cond.codeWith ({ cls := "PersonSeedsLaw", name := "inThen", desc := "(LPersonSeeds;II[J)I" } : Jvm.MethodName) method_13_code (5 : Nat) (Option.some Jvm.ClassFile.FieldType.int) [((0 : Nat), (10 : Nat), (13 : Nat), (13 : Nat))]) ∈ lw_tbl := tw_of 457 (by decide +kernel)
theorem tw_458 : (Jvm.Cond.methodLink "PersonSeedsLaw" (46 : Nat) ({ cls := "PersonSeeds", name := "inThen", desc := "(II)I" } : Jvm.MethodName)) ∈ lw_tbl := tw_of 458 (by decide +kernel)
theorem tw_459 : (Jvm.Cond.instanceMethod ({ cls := "PersonSeeds", name := "inThen", desc := "(II)I" } : Jvm.MethodName)) ∈ lw_tbl := tw_of 459 (by decide +kernel)
theorem tw_460 : (Jvm.Cond.selects "PersonSeeds" ({ cls := "PersonSeeds", name := "inThen", desc := "(II)I" } : Jvm.MethodName) ({ cls := "PersonSeeds", name := "inThen", desc := "(II)I" } : Jvm.MethodName)) ∈ lw_tbl := tw_of 460 (by decide +kernel)
theorem tw_461 : (Jvm.Cond.code ({ cls := "PersonSeeds", name := "inThen", desc := "(II)I" } : Jvm.MethodName) prog_1_method_12_code (5 : Nat) (Option.some Jvm.ClassFile.FieldType.int)) ∈ lw_tbl := tw_of 461 (by decide +kernel)
theorem tw_462 : (Jvm.Cond.methodLink "PersonSeedsLaw" (111 : Nat) ({ cls := "PersonSeedsLaw", name := "through", desc := "(LPersonSeeds;IZ[J)I" } : Jvm.MethodName)) ∈ lw_tbl := tw_of 462 (by decide +kernel)
theorem tw_463 : (Jvm.Cond.static ({ cls := "PersonSeedsLaw", name := "through", desc := "(LPersonSeeds;IZ[J)I" } : Jvm.MethodName)) ∈ lw_tbl := tw_of 463 (by decide +kernel)
theorem tw_464 : (Jvm.Cond.codeWith ({ cls := "PersonSeedsLaw", name := "through", desc := "(LPersonSeeds;IZ[J)I" } : Jvm.MethodName) method_14_code (5 : Nat) (Option.some Jvm.ClassFile.FieldType.int) [((0 : Nat), (10 : Nat), (13 : Nat), (13 : Nat))]) ∈ lw_tbl := tw_of 464 (by decide +kernel)
theorem tw_465 : (Jvm.Cond.methodLink "PersonSeedsLaw" (49 : Nat) ({ cls := "PersonSeeds", name := "through", desc := "(IZ)I" } : Jvm.MethodName)) ∈ lw_tbl := tw_of 465 (by decide +kernel)
theorem tw_466 : (Jvm.Cond.instanceMethod ({ cls := "PersonSeeds", name := "through", desc := "(IZ)I" } : Jvm.MethodName)) ∈ lw_tbl := tw_of 466 (by decide +kernel)
theorem tw_467 : (Jvm.Cond.selects "PersonSeeds" ({ cls := "PersonSeeds", name := "through", desc := "(IZ)I" } : Jvm.MethodName) ({ cls := "PersonSeeds", name := "through", desc := "(IZ)I" } : Jvm.MethodName)) ∈ lw_tbl := tw_of 467 (by decide +kernel)
theorem tw_468 : (Jvm.Cond.code ({ cls := "PersonSeeds", name := "through", desc := "(IZ)I" } : Jvm.MethodName) prog_1_method_13_code (3 : Nat) (Option.some Jvm.ClassFile.FieldType.int)) ∈ lw_tbl := tw_of 468 (by decide +kernel)
theorem tw_469 : (Jvm.Cond.methodLink "PersonSeedsLaw" (115 : Nat) ({ cls := "PersonSeedsLaw", name := "distance", desc := "(LPersonSeeds;II[J)I" } : Jvm.MethodName)) ∈ lw_tbl := tw_of 469 (by decide +kernel)
theorem tw_470 : (Jvm.Cond.static ({ cls := "PersonSeedsLaw", name := "distance", desc := "(LPersonSeeds;II[J)I" } : Jvm.MethodName)) ∈ lw_tbl := tw_of 470 (by decide +kernel)
theorem tw_471 : (Jvm.Cond.codeWith ({ cls := "PersonSeedsLaw", name := "distance", desc := "(LPersonSeeds;II[J)I" } : Jvm.MethodName) method_15_code (5 : Nat) (Option.some Jvm.ClassFile.FieldType.int) [((0 : Nat), (10 : Nat), (13 : Nat), (13 : Nat))]) ∈ lw_tbl := tw_of 471 (by decide +kernel)
theorem tw_472 : (Jvm.Cond.methodLink "PersonSeedsLaw" (53 : Nat) ({ cls := "PersonSeeds", name := "distance", desc := "(II)I" } : Jvm.MethodName)) ∈ lw_tbl := tw_of 472 (by decide +kernel)
theorem tw_473 : (Jvm.Cond.instanceMethod ({ cls := "PersonSeeds", name := "distance", desc := "(II)I" } : Jvm.MethodName)) ∈ lw_tbl := tw_of 473 (by decide +kernel)
theorem tw_474 : (Jvm.Cond.selects "PersonSeeds" ({ cls := "PersonSeeds", name := "distance", desc := "(II)I" } : Jvm.MethodName) ({ cls := "PersonSeeds", name := "distance", desc := "(II)I" } : Jvm.MethodName)) ∈ lw_tbl := tw_of 474 (by decide +kernel)
theorem tw_475 : (Jvm.Cond.code ({ cls := "PersonSeeds", name := "distance", desc := "(II)I" } : Jvm.MethodName) prog_1_method_14_code (4 : Nat) (Option.some Jvm.ClassFile.FieldType.int)) ∈ lw_tbl := tw_of 475 (by decide +kernel)
theorem tw_476 : (Jvm.Cond.methodLinkNest "PersonSeeds" (139 : Nat) ({ cls := "PersonSeeds$Doors", name := "stepsBetween", desc := "(II)I" } : Jvm.MethodName) "PersonSeeds") ∈ lw_tbl := tw_of 476 (by decide +kernel)
theorem tw_477 : (Jvm.Cond.methodLink "PersonSeedsLaw" (118 : Nat) ({ cls := "PersonSeedsLaw", name := "met", desc := "(LPersonSeeds;II[J)I" } : Jvm.MethodName)) ∈ lw_tbl := tw_of 477 (by decide +kernel)
theorem tw_478 : (Jvm.Cond.static ({ cls := "PersonSeedsLaw", name := "met", desc := "(LPersonSeeds;II[J)I" } : Jvm.MethodName)) ∈ lw_tbl := tw_of 478 (by decide +kernel)
theorem tw_479 : (Jvm.Cond.codeWith ({ cls := "PersonSeedsLaw", name := "met", desc := "(LPersonSeeds;II[J)I" } : Jvm.MethodName) method_16_code (5 : Nat) (Option.some Jvm.ClassFile.FieldType.int) [((0 : Nat), (10 : Nat), (13 : Nat), (13 : Nat))]) ∈ lw_tbl := tw_of 479 (by decide +kernel)
theorem tw_480 : (Jvm.Cond.methodLink "PersonSeedsLaw" (56 : Nat) ({ cls := "PersonSeeds", name := "met", desc := "(II)I" } : Jvm.MethodName)) ∈ lw_tbl := tw_of 480 (by decide +kernel)
theorem tw_481 : (Jvm.Cond.instanceMethod ({ cls := "PersonSeeds", name := "met", desc := "(II)I" } : Jvm.MethodName)) ∈ lw_tbl := tw_of 481 (by decide +kernel)
theorem tw_482 : (Jvm.Cond.selects "PersonSeeds" ({ cls := "PersonSeeds", name := "met", desc := "(II)I" } : Jvm.MethodName) ({ cls := "PersonSeeds", name := "met", desc := "(II)I" } : Jvm.MethodName)) ∈ lw_tbl := tw_of 482 (by decide +kernel)
theorem tw_483 : (Jvm.Cond.code ({ cls := "PersonSeeds", name := "met", desc := "(II)I" } : Jvm.MethodName) prog_1_method_15_code (5 : Nat) (Option.some Jvm.ClassFile.FieldType.int)) ∈ lw_tbl := tw_of 483 (by decide +kernel)
theorem tw_484 : (Jvm.Cond.methodLinkNest "PersonSeeds" (142 : Nat) ({ cls := "PersonSeeds$Trails", name := "firstJoining", desc := "(II)I" } : Jvm.MethodName) "PersonSeeds") ∈ lw_tbl := tw_of 484 (by decide +kernel)
theorem tw_485 : (Jvm.Cond.privateMethod ({ cls := "PersonSeeds$Trails", name := "firstJoining", desc := "(II)I" } : Jvm.MethodName)) ∈ lw_tbl := tw_of 485 (by decide +kernel)
theorem tw_486 : (Jvm.Cond.instanceMethod ({ cls := "PersonSeeds$Trails", name := "firstJoining", desc := "(II)I" } : Jvm.MethodName)) ∈ lw_tbl := tw_of 486 (by decide +kernel)
theorem tw_487 : (Jvm.Cond.code ({ cls := "PersonSeeds$Trails", name := "firstJoining", desc := "(II)I" } : Jvm.MethodName) prog_5_method_5_code (6 : Nat) (Option.some Jvm.ClassFile.FieldType.int)) ∈ lw_tbl := tw_of 487 (by decide +kernel)
theorem tw_488 : (Jvm.Cond.methodLink "PersonSeeds$Trails" (21 : Nat) ({ cls := "PersonSeeds$Trails", name := "placeBehind", desc := "(II)I" } : Jvm.MethodName)) ∈ lw_tbl := tw_of 488 (by decide +kernel)
theorem tw_489 : (Jvm.Cond.methodLink "PersonSeeds" (145 : Nat) ({ cls := "java/lang/Math", name := "max", desc := "(II)I" } : Jvm.MethodName)) ∈ lw_tbl := tw_of 489 (by decide +kernel)
theorem tw_490 : (Jvm.Cond.methodLink "PersonSeeds" (150 : Nat) ({ cls := "java/lang/Math", name := "min", desc := "(II)I" } : Jvm.MethodName)) ∈ lw_tbl := tw_of 490 (by decide +kernel)
theorem tw_491 : (Jvm.Cond.classLink "PersonSeedsLaw" (68 : Nat) "PersonSeedsModel") ∈ lw_tbl := tw_of 491 (by decide +kernel)
theorem tw_492 : (Jvm.Cond.instantiable "PersonSeedsModel" (23 : Nat)) ∈ lw_tbl := tw_of 492 (by decide +kernel)
theorem tw_493 : (Jvm.Cond.methodLink "PersonSeedsLaw" (70 : Nat) ({ cls := "PersonSeedsModel", name := "<init>", desc := "(J)V" } : Jvm.MethodName)) ∈ lw_tbl := tw_of 493 (by decide +kernel)
theorem tw_494 : (Jvm.Cond.instanceMethod ({ cls := "PersonSeedsModel", name := "<init>", desc := "(J)V" } : Jvm.MethodName)) ∈ lw_tbl := tw_of 494 (by decide +kernel)
theorem tw_495 : (Jvm.Cond.code ({ cls := "PersonSeedsModel", name := "<init>", desc := "(J)V" } : Jvm.MethodName) prog_7_method_1_code (4 : Nat) (Option.none : Option Jvm.ClassFile.FieldType)) ∈ lw_tbl := tw_of 495 (by decide +kernel)
theorem tw_496 : (Jvm.Cond.methodLink "PersonSeedsModel" (1 : Nat) ({ cls := "java/lang/Object", name := "<init>", desc := "()V" } : Jvm.MethodName)) ∈ lw_tbl := tw_of 496 (by decide +kernel)
theorem tw_497 : (Jvm.Cond.constant "PersonSeedsModel" (52 : Nat) (120000 : Int32)) ∈ lw_tbl := tw_of 497 (by decide +kernel)
theorem tw_498 : (Jvm.Cond.fieldLink "PersonSeedsModel" (57 : Nat) "PersonSeedsModel" "seed" "J") ∈ lw_tbl := tw_of 498 (by decide +kernel)
theorem tw_499 : (Jvm.Cond.fieldLink "PersonSeedsModel" (61 : Nat) "PersonSeedsModel" "fault" "I") ∈ lw_tbl := tw_of 499 (by decide +kernel)
theorem tw_500 : (Jvm.Cond.fieldLink "PersonSeedsModel" (77 : Nat) "PersonSeedsModel" "minute" "I") ∈ lw_tbl := tw_of 500 (by decide +kernel)
theorem tw_501 : (Jvm.Cond.fieldLink "PersonSeedsModel" (65 : Nat) "PersonSeedsModel" "rooms" "I") ∈ lw_tbl := tw_of 501 (by decide +kernel)
theorem tw_502 : (Jvm.Cond.fieldLink "PersonSeedsModel" (7 : Nat) "PersonSeedsModel" "cells" "[I") ∈ lw_tbl := tw_of 502 (by decide +kernel)
theorem tw_503 : (Jvm.Cond.fieldLink "PersonSeedsModel" (13 : Nat) "PersonSeedsModel" "there" "[I") ∈ lw_tbl := tw_of 503 (by decide +kernel)
theorem tw_504 : (Jvm.Cond.fieldLink "PersonSeedsModel" (16 : Nat) "PersonSeedsModel" "most" "[I") ∈ lw_tbl := tw_of 504 (by decide +kernel)
theorem tw_505 : (Jvm.Cond.fieldLink "PersonSeedsModel" (19 : Nat) "PersonSeedsModel" "full" "[I") ∈ lw_tbl := tw_of 505 (by decide +kernel)
theorem tw_506 : (Jvm.Cond.fieldLink "PersonSeedsModel" (22 : Nat) "PersonSeedsModel" "far" "[I") ∈ lw_tbl := tw_of 506 (by decide +kernel)
theorem tw_507 : (Jvm.Cond.fieldLink "PersonSeedsModel" (90 : Nat) "PersonSeedsModel" "doors" "I") ∈ lw_tbl := tw_of 507 (by decide +kernel)
theorem tw_508 : (Jvm.Cond.fieldLink "PersonSeedsModel" (25 : Nat) "PersonSeedsModel" "from" "[I") ∈ lw_tbl := tw_of 508 (by decide +kernel)
theorem tw_509 : (Jvm.Cond.fieldLink "PersonSeedsModel" (28 : Nat) "PersonSeedsModel" "to" "[I") ∈ lw_tbl := tw_of 509 (by decide +kernel)
theorem tw_510 : (Jvm.Cond.fieldLink "PersonSeedsModel" (31 : Nat) "PersonSeedsModel" "width" "[I") ∈ lw_tbl := tw_of 510 (by decide +kernel)
theorem tw_511 : (Jvm.Cond.fieldLink "PersonSeedsModel" (34 : Nat) "PersonSeedsModel" "gone" "[I") ∈ lw_tbl := tw_of 511 (by decide +kernel)
theorem tw_512 : (Jvm.Cond.fieldLink "PersonSeedsModel" (37 : Nat) "PersonSeedsModel" "onward" "[I") ∈ lw_tbl := tw_of 512 (by decide +kernel)
theorem tw_513 : (Jvm.Cond.fieldLink "PersonSeedsModel" (40 : Nat) "PersonSeedsModel" "backward" "[I") ∈ lw_tbl := tw_of 513 (by decide +kernel)
theorem tw_514 : (Jvm.Cond.fieldLink "PersonSeedsModel" (68 : Nat) "PersonSeedsModel" "persons" "I") ∈ lw_tbl := tw_of 514 (by decide +kernel)
theorem tw_515 : (Jvm.Cond.fieldLink "PersonSeedsModel" (43 : Nat) "PersonSeedsModel" "comes" "[I") ∈ lw_tbl := tw_of 515 (by decide +kernel)
theorem tw_516 : (Jvm.Cond.fieldLink "PersonSeedsModel" (46 : Nat) "PersonSeedsModel" "place" "[I") ∈ lw_tbl := tw_of 516 (by decide +kernel)
theorem tw_517 : (Jvm.Cond.fieldLink "PersonSeedsModel" (49 : Nat) "PersonSeedsModel" "waits" "[I") ∈ lw_tbl := tw_of 517 (by decide +kernel)
theorem tw_518 : (Jvm.Cond.fieldLink "PersonSeedsModel" (53 : Nat) "PersonSeedsModel" "past" "[B") ∈ lw_tbl := tw_of 518 (by decide +kernel)
theorem tw_519 : (Jvm.Cond.fieldLink "PersonSeedsModel" (132 : Nat) "PersonSeedsModel" "cameIn" "I") ∈ lw_tbl := tw_of 519 (by decide +kernel)
theorem tw_520 : (Jvm.Cond.fieldLink "PersonSeedsModel" (135 : Nat) "PersonSeedsModel" "wentOut" "I") ∈ lw_tbl := tw_of 520 (by decide +kernel)
theorem tw_521 : (Jvm.Cond.laysFinal "PersonSeedsModel" "PersonSeedsModel" "seed" "J") ∈ lw_tbl := tw_of 521 (by decide +kernel)
theorem tw_522 : (Jvm.Cond.soleField "PersonSeedsModel" "seed") ∈ lw_tbl := tw_of 522 (by decide +kernel)
theorem tw_523 : (Jvm.Cond.lays "PersonSeedsModel" "PersonSeedsModel" "fault" "I") ∈ lw_tbl := tw_of 523 (by decide +kernel)
theorem tw_524 : (Jvm.Cond.soleField "PersonSeedsModel" "fault") ∈ lw_tbl := tw_of 524 (by decide +kernel)
theorem tw_525 : (Jvm.Cond.lays "PersonSeedsModel" "PersonSeedsModel" "minute" "I") ∈ lw_tbl := tw_of 525 (by decide +kernel)
theorem tw_526 : (Jvm.Cond.soleField "PersonSeedsModel" "minute") ∈ lw_tbl := tw_of 526 (by decide +kernel)
theorem tw_527 : (Jvm.Cond.lays "PersonSeedsModel" "PersonSeedsModel" "rooms" "I") ∈ lw_tbl := tw_of 527 (by decide +kernel)
theorem tw_528 : (Jvm.Cond.soleField "PersonSeedsModel" "rooms") ∈ lw_tbl := tw_of 528 (by decide +kernel)
theorem tw_529 : (Jvm.Cond.laysFinal "PersonSeedsModel" "PersonSeedsModel" "cells" "[I") ∈ lw_tbl := tw_of 529 (by decide +kernel)
theorem tw_530 : (Jvm.Cond.soleField "PersonSeedsModel" "cells") ∈ lw_tbl := tw_of 530 (by decide +kernel)
theorem tw_531 : (Jvm.Cond.laysFinal "PersonSeedsModel" "PersonSeedsModel" "there" "[I") ∈ lw_tbl := tw_of 531 (by decide +kernel)
theorem tw_532 : (Jvm.Cond.soleField "PersonSeedsModel" "there") ∈ lw_tbl := tw_of 532 (by decide +kernel)
theorem tw_533 : (Jvm.Cond.laysFinal "PersonSeedsModel" "PersonSeedsModel" "most" "[I") ∈ lw_tbl := tw_of 533 (by decide +kernel)
theorem tw_534 : (Jvm.Cond.soleField "PersonSeedsModel" "most") ∈ lw_tbl := tw_of 534 (by decide +kernel)
theorem tw_535 : (Jvm.Cond.laysFinal "PersonSeedsModel" "PersonSeedsModel" "full" "[I") ∈ lw_tbl := tw_of 535 (by decide +kernel)
theorem tw_536 : (Jvm.Cond.soleField "PersonSeedsModel" "full") ∈ lw_tbl := tw_of 536 (by decide +kernel)
theorem tw_537 : (Jvm.Cond.laysFinal "PersonSeedsModel" "PersonSeedsModel" "far" "[I") ∈ lw_tbl := tw_of 537 (by decide +kernel)
theorem tw_538 : (Jvm.Cond.soleField "PersonSeedsModel" "far") ∈ lw_tbl := tw_of 538 (by decide +kernel)
theorem tw_539 : (Jvm.Cond.lays "PersonSeedsModel" "PersonSeedsModel" "doors" "I") ∈ lw_tbl := tw_of 539 (by decide +kernel)
theorem tw_540 : (Jvm.Cond.soleField "PersonSeedsModel" "doors") ∈ lw_tbl := tw_of 540 (by decide +kernel)
theorem tw_541 : (Jvm.Cond.laysFinal "PersonSeedsModel" "PersonSeedsModel" "from" "[I") ∈ lw_tbl := tw_of 541 (by decide +kernel)
theorem tw_542 : (Jvm.Cond.soleField "PersonSeedsModel" "from") ∈ lw_tbl := tw_of 542 (by decide +kernel)
theorem tw_543 : (Jvm.Cond.laysFinal "PersonSeedsModel" "PersonSeedsModel" "to" "[I") ∈ lw_tbl := tw_of 543 (by decide +kernel)
theorem tw_544 : (Jvm.Cond.soleField "PersonSeedsModel" "to") ∈ lw_tbl := tw_of 544 (by decide +kernel)
theorem tw_545 : (Jvm.Cond.laysFinal "PersonSeedsModel" "PersonSeedsModel" "width" "[I") ∈ lw_tbl := tw_of 545 (by decide +kernel)
theorem tw_546 : (Jvm.Cond.soleField "PersonSeedsModel" "width") ∈ lw_tbl := tw_of 546 (by decide +kernel)
theorem tw_547 : (Jvm.Cond.laysFinal "PersonSeedsModel" "PersonSeedsModel" "gone" "[I") ∈ lw_tbl := tw_of 547 (by decide +kernel)
theorem tw_548 : (Jvm.Cond.soleField "PersonSeedsModel" "gone") ∈ lw_tbl := tw_of 548 (by decide +kernel)
theorem tw_549 : (Jvm.Cond.laysFinal "PersonSeedsModel" "PersonSeedsModel" "onward" "[I") ∈ lw_tbl := tw_of 549 (by decide +kernel)
theorem tw_550 : (Jvm.Cond.soleField "PersonSeedsModel" "onward") ∈ lw_tbl := tw_of 550 (by decide +kernel)
theorem tw_551 : (Jvm.Cond.laysFinal "PersonSeedsModel" "PersonSeedsModel" "backward" "[I") ∈ lw_tbl := tw_of 551 (by decide +kernel)
theorem tw_552 : (Jvm.Cond.soleField "PersonSeedsModel" "backward") ∈ lw_tbl := tw_of 552 (by decide +kernel)
theorem tw_553 : (Jvm.Cond.lays "PersonSeedsModel" "PersonSeedsModel" "persons" "I") ∈ lw_tbl := tw_of 553 (by decide +kernel)
theorem tw_554 : (Jvm.Cond.soleField "PersonSeedsModel" "persons") ∈ lw_tbl := tw_of 554 (by decide +kernel)
theorem tw_555 : (Jvm.Cond.laysFinal "PersonSeedsModel" "PersonSeedsModel" "comes" "[I") ∈ lw_tbl := tw_of 555 (by decide +kernel)
theorem tw_556 : (Jvm.Cond.soleField "PersonSeedsModel" "comes") ∈ lw_tbl := tw_of 556 (by decide +kernel)
theorem tw_557 : (Jvm.Cond.laysFinal "PersonSeedsModel" "PersonSeedsModel" "place" "[I") ∈ lw_tbl := tw_of 557 (by decide +kernel)
theorem tw_558 : (Jvm.Cond.soleField "PersonSeedsModel" "place") ∈ lw_tbl := tw_of 558 (by decide +kernel)
theorem tw_559 : (Jvm.Cond.laysFinal "PersonSeedsModel" "PersonSeedsModel" "waits" "[I") ∈ lw_tbl := tw_of 559 (by decide +kernel)
theorem tw_560 : (Jvm.Cond.soleField "PersonSeedsModel" "waits") ∈ lw_tbl := tw_of 560 (by decide +kernel)
theorem tw_561 : (Jvm.Cond.laysFinal "PersonSeedsModel" "PersonSeedsModel" "past" "[B") ∈ lw_tbl := tw_of 561 (by decide +kernel)
theorem tw_562 : (Jvm.Cond.soleField "PersonSeedsModel" "past") ∈ lw_tbl := tw_of 562 (by decide +kernel)
theorem tw_563 : (Jvm.Cond.lays "PersonSeedsModel" "PersonSeedsModel" "cameIn" "I") ∈ lw_tbl := tw_of 563 (by decide +kernel)
theorem tw_564 : (Jvm.Cond.soleField "PersonSeedsModel" "cameIn") ∈ lw_tbl := tw_of 564 (by decide +kernel)
theorem tw_565 : (Jvm.Cond.lays "PersonSeedsModel" "PersonSeedsModel" "wentOut" "I") ∈ lw_tbl := tw_of 565 (by decide +kernel)
theorem tw_566 : (Jvm.Cond.soleField "PersonSeedsModel" "wentOut") ∈ lw_tbl := tw_of 566 (by decide +kernel)
theorem tw_567 : (Jvm.Cond.superclass "PersonSeedsModel" "java/lang/Object") ∈ lw_tbl := tw_of 567 (by decide +kernel)
theorem tw_568 : (Jvm.Cond.methodLink "PersonSeedsLaw" (75 : Nat) ({ cls := "PersonSeedsModel", name := "thrown", desc := "()I" } : Jvm.MethodName)) ∈ lw_tbl := tw_of 568 (by decide +kernel)
theorem tw_569 : (Jvm.Cond.instanceMethod ({ cls := "PersonSeedsModel", name := "thrown", desc := "()I" } : Jvm.MethodName)) ∈ lw_tbl := tw_of 569 (by decide +kernel)
theorem tw_570 : (Jvm.Cond.selects "PersonSeedsModel" ({ cls := "PersonSeedsModel", name := "thrown", desc := "()I" } : Jvm.MethodName) ({ cls := "PersonSeedsModel", name := "thrown", desc := "()I" } : Jvm.MethodName)) ∈ lw_tbl := tw_of 570 (by decide +kernel)
theorem tw_571 : (Jvm.Cond.code ({ cls := "PersonSeedsModel", name := "thrown", desc := "()I" } : Jvm.MethodName) prog_7_method_2_code (1 : Nat) (Option.some Jvm.ClassFile.FieldType.int)) ∈ lw_tbl := tw_of 571 (by decide +kernel)
theorem tw_572 : (Jvm.Cond.methodLink "PersonSeedsLaw" (74 : Nat) ({ cls := "PersonSeedsModel", name := "room", desc := "(I)I" } : Jvm.MethodName)) ∈ lw_tbl := tw_of 572 (by decide +kernel)
theorem tw_573 : (Jvm.Cond.instanceMethod ({ cls := "PersonSeedsModel", name := "room", desc := "(I)I" } : Jvm.MethodName)) ∈ lw_tbl := tw_of 573 (by decide +kernel)
theorem tw_574 : (Jvm.Cond.selects "PersonSeedsModel" ({ cls := "PersonSeedsModel", name := "room", desc := "(I)I" } : Jvm.MethodName) ({ cls := "PersonSeedsModel", name := "room", desc := "(I)I" } : Jvm.MethodName)) ∈ lw_tbl := tw_of 574 (by decide +kernel)
theorem tw_575 : (Jvm.Cond.code ({ cls := "PersonSeedsModel", name := "room", desc := "(I)I" } : Jvm.MethodName) prog_7_method_7_code (2 : Nat) (Option.some Jvm.ClassFile.FieldType.int)) ∈ lw_tbl := tw_of 575 (by decide +kernel)
theorem tw_576 : (Jvm.Cond.constantLong "PersonSeedsModel" (71 : Nat) (100 : Int64)) ∈ lw_tbl := tw_of 576 (by decide +kernel)
theorem tw_577 : (Jvm.Cond.methodLink "PersonSeedsModel" (73 : Nat) ({ cls := "PersonSeedsModel", name := "within", desc := "(JJJ)Z" } : Jvm.MethodName)) ∈ lw_tbl := tw_of 577 (by decide +kernel)
theorem tw_578 : (Jvm.Cond.static ({ cls := "PersonSeedsModel", name := "within", desc := "(JJJ)Z" } : Jvm.MethodName)) ∈ lw_tbl := tw_of 578 (by decide +kernel)
theorem tw_579 : (Jvm.Cond.code ({ cls := "PersonSeedsModel", name := "within", desc := "(JJJ)Z" } : Jvm.MethodName) prog_7_method_4_code (6 : Nat) (Option.some Jvm.ClassFile.FieldType.boolean)) ∈ lw_tbl := tw_of 579 (by decide +kernel)
theorem tw_580 : (Jvm.Cond.methodLink "PersonSeedsModel" (80 : Nat) ({ cls := "PersonSeedsModel", name := "may", desc := "(ZZ)Z" } : Jvm.MethodName)) ∈ lw_tbl := tw_of 580 (by decide +kernel)
theorem tw_581 : (Jvm.Cond.privateMethod ({ cls := "PersonSeedsModel", name := "may", desc := "(ZZ)Z" } : Jvm.MethodName)) ∈ lw_tbl := tw_of 581 (by decide +kernel)
theorem tw_582 : (Jvm.Cond.instanceMethod ({ cls := "PersonSeedsModel", name := "may", desc := "(ZZ)Z" } : Jvm.MethodName)) ∈ lw_tbl := tw_of 582 (by decide +kernel)
theorem tw_583 : (Jvm.Cond.code ({ cls := "PersonSeedsModel", name := "may", desc := "(ZZ)Z" } : Jvm.MethodName) prog_7_method_3_code (3 : Nat) (Option.some Jvm.ClassFile.FieldType.boolean)) ∈ lw_tbl := tw_of 583 (by decide +kernel)
theorem tw_584 : (Jvm.Cond.methodLink "PersonSeedsLaw" (82 : Nat) ({ cls := "PersonSeedsModel", name := "door", desc := "(III)I" } : Jvm.MethodName)) ∈ lw_tbl := tw_of 584 (by decide +kernel)
theorem tw_585 : (Jvm.Cond.instanceMethod ({ cls := "PersonSeedsModel", name := "door", desc := "(III)I" } : Jvm.MethodName)) ∈ lw_tbl := tw_of 585 (by decide +kernel)
theorem tw_586 : (Jvm.Cond.selects "PersonSeedsModel" ({ cls := "PersonSeedsModel", name := "door", desc := "(III)I" } : Jvm.MethodName) ({ cls := "PersonSeedsModel", name := "door", desc := "(III)I" } : Jvm.MethodName)) ∈ lw_tbl := tw_of 586 (by decide +kernel)
theorem tw_587 : (Jvm.Cond.code ({ cls := "PersonSeedsModel", name := "door", desc := "(III)I" } : Jvm.MethodName) prog_7_method_8_code (4 : Nat) (Option.some Jvm.ClassFile.FieldType.int)) ∈ lw_tbl := tw_of 587 (by decide +kernel)
theorem tw_588 : (Jvm.Cond.methodLink "PersonSeedsModel" (84 : Nat) ({ cls := "PersonSeedsModel", name := "isRoom", desc := "(I)Z" } : Jvm.MethodName)) ∈ lw_tbl := tw_of 588 (by decide +kernel)
theorem tw_589 : (Jvm.Cond.privateMethod ({ cls := "PersonSeedsModel", name := "isRoom", desc := "(I)Z" } : Jvm.MethodName)) ∈ lw_tbl := tw_of 589 (by decide +kernel)
theorem tw_590 : (Jvm.Cond.instanceMethod ({ cls := "PersonSeedsModel", name := "isRoom", desc := "(I)Z" } : Jvm.MethodName)) ∈ lw_tbl := tw_of 590 (by decide +kernel)
theorem tw_591 : (Jvm.Cond.code ({ cls := "PersonSeedsModel", name := "isRoom", desc := "(I)Z" } : Jvm.MethodName) prog_7_method_5_code (2 : Nat) (Option.some Jvm.ClassFile.FieldType.boolean)) ∈ lw_tbl := tw_of 591 (by decide +kernel)
theorem tw_592 : (Jvm.Cond.constantLong "PersonSeedsModel" (88 : Nat) (20 : Int64)) ∈ lw_tbl := tw_of 592 (by decide +kernel)
theorem tw_593 : (Jvm.Cond.methodLink "PersonSeedsModel" (93 : Nat) ({ cls := "PersonSeedsModel", name := "shorten", desc := "(II)V" } : Jvm.MethodName)) ∈ lw_tbl := tw_of 593 (by decide +kernel)
theorem tw_594 : (Jvm.Cond.privateMethod ({ cls := "PersonSeedsModel", name := "shorten", desc := "(II)V" } : Jvm.MethodName)) ∈ lw_tbl := tw_of 594 (by decide +kernel)
theorem tw_595 : (Jvm.Cond.instanceMethod ({ cls := "PersonSeedsModel", name := "shorten", desc := "(II)V" } : Jvm.MethodName)) ∈ lw_tbl := tw_of 595 (by decide +kernel)
theorem tw_596 : (Jvm.Cond.code ({ cls := "PersonSeedsModel", name := "shorten", desc := "(II)V" } : Jvm.MethodName) prog_7_method_9_code (9 : Nat) (Option.none : Option Jvm.ClassFile.FieldType)) ∈ lw_tbl := tw_of 596 (by decide +kernel)
theorem tw_597 : (Jvm.Cond.methodLink "PersonSeedsLaw" (86 : Nat) ({ cls := "PersonSeedsModel", name := "arrives", desc := "(II)I" } : Jvm.MethodName)) ∈ lw_tbl := tw_of 597 (by decide +kernel)
theorem tw_598 : (Jvm.Cond.instanceMethod ({ cls := "PersonSeedsModel", name := "arrives", desc := "(II)I" } : Jvm.MethodName)) ∈ lw_tbl := tw_of 598 (by decide +kernel)
theorem tw_599 : (Jvm.Cond.selects "PersonSeedsModel" ({ cls := "PersonSeedsModel", name := "arrives", desc := "(II)I" } : Jvm.MethodName) ({ cls := "PersonSeedsModel", name := "arrives", desc := "(II)I" } : Jvm.MethodName)) ∈ lw_tbl := tw_of 599 (by decide +kernel)
theorem tw_600 : (Jvm.Cond.code ({ cls := "PersonSeedsModel", name := "arrives", desc := "(II)I" } : Jvm.MethodName) prog_7_method_10_code (5 : Nat) (Option.some Jvm.ClassFile.FieldType.int)) ∈ lw_tbl := tw_of 600 (by decide +kernel)
theorem tw_601 : (Jvm.Cond.constantLong "PersonSeedsModel" (97 : Nat) (1439 : Int64)) ∈ lw_tbl := tw_of 601 (by decide +kernel)
theorem tw_602 : (Jvm.Cond.methodLink "PersonSeedsLaw" (89 : Nat) ({ cls := "PersonSeedsModel", name := "draw", desc := "(III)I" } : Jvm.MethodName)) ∈ lw_tbl := tw_of 602 (by decide +kernel)
theorem tw_603 : (Jvm.Cond.instanceMethod ({ cls := "PersonSeedsModel", name := "draw", desc := "(III)I" } : Jvm.MethodName)) ∈ lw_tbl := tw_of 603 (by decide +kernel)
theorem tw_604 : (Jvm.Cond.selects "PersonSeedsModel" ({ cls := "PersonSeedsModel", name := "draw", desc := "(III)I" } : Jvm.MethodName) ({ cls := "PersonSeedsModel", name := "draw", desc := "(III)I" } : Jvm.MethodName)) ∈ lw_tbl := tw_of 604 (by decide +kernel)
theorem tw_605 : (Jvm.Cond.code ({ cls := "PersonSeedsModel", name := "draw", desc := "(III)I" } : Jvm.MethodName) prog_7_method_12_code (4 : Nat) (Option.some Jvm.ClassFile.FieldType.int)) ∈ lw_tbl := tw_of 605 (by decide +kernel)
theorem tw_606 : (Jvm.Cond.constantLong "PersonSeedsModel" (107 : Nat) (59 : Int64)) ∈ lw_tbl := tw_of 606 (by decide +kernel)
theorem tw_607 : (Jvm.Cond.constantLong "PersonSeedsModel" (109 : Nat) (7 : Int64)) ∈ lw_tbl := tw_of 607 (by decide +kernel)
theorem tw_608 : (Jvm.Cond.constantLong "PersonSeedsModel" (111 : Nat) (1000000 : Int64)) ∈ lw_tbl := tw_of 608 (by decide +kernel)
theorem tw_609 : (Jvm.Cond.methodLink "PersonSeedsModel" (113 : Nat) ({ cls := "PersonSeedsModel", name := "drawn", desc := "(III)I" } : Jvm.MethodName)) ∈ lw_tbl := tw_of 609 (by decide +kernel)
theorem tw_610 : (Jvm.Cond.privateMethod ({ cls := "PersonSeedsModel", name := "drawn", desc := "(III)I" } : Jvm.MethodName)) ∈ lw_tbl := tw_of 610 (by decide +kernel)
theorem tw_611 : (Jvm.Cond.instanceMethod ({ cls := "PersonSeedsModel", name := "drawn", desc := "(III)I" } : Jvm.MethodName)) ∈ lw_tbl := tw_of 611 (by decide +kernel)
theorem tw_612 : (Jvm.Cond.code ({ cls := "PersonSeedsModel", name := "drawn", desc := "(III)I" } : Jvm.MethodName) prog_7_method_11_code (6 : Nat) (Option.some Jvm.ClassFile.FieldType.int)) ∈ lw_tbl := tw_of 612 (by decide +kernel)
theorem tw_613 : (Jvm.Cond.constantLong "PersonSeedsModel" (99 : Nat) (-7046029254386353131 : Int64)) ∈ lw_tbl := tw_of 613 (by decide +kernel)
theorem tw_614 : (Jvm.Cond.constantLong "PersonSeedsModel" (101 : Nat) (8 : Int64)) ∈ lw_tbl := tw_of 614 (by decide +kernel)
theorem tw_615 : (Jvm.Cond.constantLong "PersonSeedsModel" (103 : Nat) (-4658895280553007687 : Int64)) ∈ lw_tbl := tw_of 615 (by decide +kernel)
theorem tw_616 : (Jvm.Cond.constantLong "PersonSeedsModel" (105 : Nat) (-7723592293110705685 : Int64)) ∈ lw_tbl := tw_of 616 (by decide +kernel)
theorem tw_617 : (Jvm.Cond.methodLink "PersonSeedsLaw" (92 : Nat) ({ cls := "PersonSeedsModel", name := "run", desc := "(I)I" } : Jvm.MethodName)) ∈ lw_tbl := tw_of 617 (by decide +kernel)
theorem tw_618 : (Jvm.Cond.instanceMethod ({ cls := "PersonSeedsModel", name := "run", desc := "(I)I" } : Jvm.MethodName)) ∈ lw_tbl := tw_of 618 (by decide +kernel)
theorem tw_619 : (Jvm.Cond.selects "PersonSeedsModel" ({ cls := "PersonSeedsModel", name := "run", desc := "(I)I" } : Jvm.MethodName) ({ cls := "PersonSeedsModel", name := "run", desc := "(I)I" } : Jvm.MethodName)) ∈ lw_tbl := tw_of 619 (by decide +kernel)
theorem tw_620 : (Jvm.Cond.code ({ cls := "PersonSeedsModel", name := "run", desc := "(I)I" } : Jvm.MethodName) prog_7_method_20_code (4 : Nat) (Option.some Jvm.ClassFile.FieldType.int)) ∈ lw_tbl := tw_of 620 (by decide +kernel)
theorem tw_621 : (Jvm.Cond.constantLong "PersonSeedsModel" (145 : Nat) (500 : Int64)) ∈ lw_tbl := tw_of 621 (by decide +kernel)
theorem tw_622 : (Jvm.Cond.methodLink "PersonSeedsModel" (147 : Nat) ({ cls := "PersonSeedsModel", name := "oneMinute", desc := "()V" } : Jvm.MethodName)) ∈ lw_tbl := tw_of 622 (by decide +kernel)
theorem tw_623 : (Jvm.Cond.privateMethod ({ cls := "PersonSeedsModel", name := "oneMinute", desc := "()V" } : Jvm.MethodName)) ∈ lw_tbl := tw_of 623 (by decide +kernel)
theorem tw_624 : (Jvm.Cond.instanceMethod ({ cls := "PersonSeedsModel", name := "oneMinute", desc := "()V" } : Jvm.MethodName)) ∈ lw_tbl := tw_of 624 (by decide +kernel)
theorem tw_625 : (Jvm.Cond.code ({ cls := "PersonSeedsModel", name := "oneMinute", desc := "()V" } : Jvm.MethodName) prog_7_method_19_code (2 : Nat) (Option.none : Option Jvm.ClassFile.FieldType)) ∈ lw_tbl := tw_of 625 (by decide +kernel)
theorem tw_626 : (Jvm.Cond.methodLink "PersonSeedsModel" (141 : Nat) ({ cls := "PersonSeedsModel", name := "step", desc := "(I)V" } : Jvm.MethodName)) ∈ lw_tbl := tw_of 626 (by decide +kernel)
theorem tw_627 : (Jvm.Cond.privateMethod ({ cls := "PersonSeedsModel", name := "step", desc := "(I)V" } : Jvm.MethodName)) ∈ lw_tbl := tw_of 627 (by decide +kernel)
theorem tw_628 : (Jvm.Cond.instanceMethod ({ cls := "PersonSeedsModel", name := "step", desc := "(I)V" } : Jvm.MethodName)) ∈ lw_tbl := tw_of 628 (by decide +kernel)
theorem tw_629 : (Jvm.Cond.code ({ cls := "PersonSeedsModel", name := "step", desc := "(I)V" } : Jvm.MethodName) prog_7_method_18_code (3 : Nat) (Option.none : Option Jvm.ClassFile.FieldType)) ∈ lw_tbl := tw_of 629 (by decide +kernel)
theorem tw_630 : (Jvm.Cond.methodLink "PersonSeedsModel" (128 : Nat) ({ cls := "PersonSeedsModel", name := "wants", desc := "(I)I" } : Jvm.MethodName)) ∈ lw_tbl := tw_of 630 (by decide +kernel)
theorem tw_631 : (Jvm.Cond.privateMethod ({ cls := "PersonSeedsModel", name := "wants", desc := "(I)I" } : Jvm.MethodName)) ∈ lw_tbl := tw_of 631 (by decide +kernel)
theorem tw_632 : (Jvm.Cond.instanceMethod ({ cls := "PersonSeedsModel", name := "wants", desc := "(I)I" } : Jvm.MethodName)) ∈ lw_tbl := tw_of 632 (by decide +kernel)
theorem tw_633 : (Jvm.Cond.code ({ cls := "PersonSeedsModel", name := "wants", desc := "(I)I" } : Jvm.MethodName) prog_7_method_14_code (2 : Nat) (Option.some Jvm.ClassFile.FieldType.int)) ∈ lw_tbl := tw_of 633 (by decide +kernel)
theorem tw_634 : (Jvm.Cond.methodLink "PersonSeedsModel" (117 : Nat) ({ cls := "PersonSeedsModel", name := "tell", desc := "(II)I" } : Jvm.MethodName)) ∈ lw_tbl := tw_of 634 (by decide +kernel)
theorem tw_635 : (Jvm.Cond.privateMethod ({ cls := "PersonSeedsModel", name := "tell", desc := "(II)I" } : Jvm.MethodName)) ∈ lw_tbl := tw_of 635 (by decide +kernel)
theorem tw_636 : (Jvm.Cond.instanceMethod ({ cls := "PersonSeedsModel", name := "tell", desc := "(II)I" } : Jvm.MethodName)) ∈ lw_tbl := tw_of 636 (by decide +kernel)
theorem tw_637 : (Jvm.Cond.code ({ cls := "PersonSeedsModel", name := "tell", desc := "(II)I" } : Jvm.MethodName) prog_7_method_13_code (4 : Nat) (Option.some Jvm.ClassFile.FieldType.int)) ∈ lw_tbl := tw_of 637 (by decide +kernel)
theorem tw_638 : (Jvm.Cond.methodLink "PersonSeedsModel" (124 : Nat) ({ cls := "PersonSeedsModel", name := "goes", desc := "(II)Z" } : Jvm.MethodName)) ∈ lw_tbl := tw_of 638 (by decide +kernel)
theorem tw_639 : (Jvm.Cond.privateMethod ({ cls := "PersonSeedsModel", name := "goes", desc := "(II)Z" } : Jvm.MethodName)) ∈ lw_tbl := tw_of 639 (by decide +kernel)
theorem tw_640 : (Jvm.Cond.instanceMethod ({ cls := "PersonSeedsModel", name := "goes", desc := "(II)Z" } : Jvm.MethodName)) ∈ lw_tbl := tw_of 640 (by decide +kernel)
theorem tw_641 : (Jvm.Cond.code ({ cls := "PersonSeedsModel", name := "goes", desc := "(II)Z" } : Jvm.MethodName) prog_7_method_15_code (3 : Nat) (Option.some Jvm.ClassFile.FieldType.boolean)) ∈ lw_tbl := tw_of 641 (by decide +kernel)
theorem tw_642 : (Jvm.Cond.methodLink "PersonSeedsModel" (138 : Nat) ({ cls := "PersonSeedsModel", name := "throughDoor", desc := "(II)V" } : Jvm.MethodName)) ∈ lw_tbl := tw_of 642 (by decide +kernel)
theorem tw_643 : (Jvm.Cond.privateMethod ({ cls := "PersonSeedsModel", name := "throughDoor", desc := "(II)V" } : Jvm.MethodName)) ∈ lw_tbl := tw_of 643 (by decide +kernel)
theorem tw_644 : (Jvm.Cond.instanceMethod ({ cls := "PersonSeedsModel", name := "throughDoor", desc := "(II)V" } : Jvm.MethodName)) ∈ lw_tbl := tw_of 644 (by decide +kernel)
theorem tw_645 : (Jvm.Cond.code ({ cls := "PersonSeedsModel", name := "throughDoor", desc := "(II)V" } : Jvm.MethodName) prog_7_method_17_code (5 : Nat) (Option.none : Option Jvm.ClassFile.FieldType)) ∈ lw_tbl := tw_of 645 (by decide +kernel)
theorem tw_646 : (Jvm.Cond.methodLink "PersonSeedsModel" (121 : Nat) ({ cls := "PersonSeedsModel", name := "doorOf", desc := "(II)I" } : Jvm.MethodName)) ∈ lw_tbl := tw_of 646 (by decide +kernel)
theorem tw_647 : (Jvm.Cond.privateMethod ({ cls := "PersonSeedsModel", name := "doorOf", desc := "(II)I" } : Jvm.MethodName)) ∈ lw_tbl := tw_of 647 (by decide +kernel)
theorem tw_648 : (Jvm.Cond.instanceMethod ({ cls := "PersonSeedsModel", name := "doorOf", desc := "(II)I" } : Jvm.MethodName)) ∈ lw_tbl := tw_of 648 (by decide +kernel)
theorem tw_649 : (Jvm.Cond.code ({ cls := "PersonSeedsModel", name := "doorOf", desc := "(II)I" } : Jvm.MethodName) prog_7_method_16_code (6 : Nat) (Option.some Jvm.ClassFile.FieldType.int)) ∈ lw_tbl := tw_of 649 (by decide +kernel)
theorem tw_650 : (Jvm.Cond.methodLink "PersonSeedsLaw" (95 : Nat) ({ cls := "PersonSeedsModel", name := "person", desc := "(II)I" } : Jvm.MethodName)) ∈ lw_tbl := tw_of 650 (by decide +kernel)
theorem tw_651 : (Jvm.Cond.instanceMethod ({ cls := "PersonSeedsModel", name := "person", desc := "(II)I" } : Jvm.MethodName)) ∈ lw_tbl := tw_of 651 (by decide +kernel)
theorem tw_652 : (Jvm.Cond.selects "PersonSeedsModel" ({ cls := "PersonSeedsModel", name := "person", desc := "(II)I" } : Jvm.MethodName) ({ cls := "PersonSeedsModel", name := "person", desc := "(II)I" } : Jvm.MethodName)) ∈ lw_tbl := tw_of 652 (by decide +kernel)
theorem tw_653 : (Jvm.Cond.code ({ cls := "PersonSeedsModel", name := "person", desc := "(II)I" } : Jvm.MethodName) prog_7_method_21_code (3 : Nat) (Option.some Jvm.ClassFile.FieldType.int)) ∈ lw_tbl := tw_of 653 (by decide +kernel)
theorem tw_654 : (Jvm.Cond.methodLink "PersonSeedsModel" (150 : Nat) ({ cls := "PersonSeedsModel", name := "isPerson", desc := "(I)Z" } : Jvm.MethodName)) ∈ lw_tbl := tw_of 654 (by decide +kernel)
theorem tw_655 : (Jvm.Cond.privateMethod ({ cls := "PersonSeedsModel", name := "isPerson", desc := "(I)Z" } : Jvm.MethodName)) ∈ lw_tbl := tw_of 655 (by decide +kernel)
theorem tw_656 : (Jvm.Cond.instanceMethod ({ cls := "PersonSeedsModel", name := "isPerson", desc := "(I)Z" } : Jvm.MethodName)) ∈ lw_tbl := tw_of 656 (by decide +kernel)
theorem tw_657 : (Jvm.Cond.code ({ cls := "PersonSeedsModel", name := "isPerson", desc := "(I)Z" } : Jvm.MethodName) prog_7_method_6_code (2 : Nat) (Option.some Jvm.ClassFile.FieldType.boolean)) ∈ lw_tbl := tw_of 657 (by decide +kernel)
theorem tw_658 : (Jvm.Cond.constantLong "PersonSeedsModel" (153 : Nat) (5 : Int64)) ∈ lw_tbl := tw_of 658 (by decide +kernel)
theorem tw_659 : (Jvm.Cond.methodLink "PersonSeedsLaw" (98 : Nat) ({ cls := "PersonSeedsModel", name := "at", desc := "(I)I" } : Jvm.MethodName)) ∈ lw_tbl := tw_of 659 (by decide +kernel)
theorem tw_660 : (Jvm.Cond.instanceMethod ({ cls := "PersonSeedsModel", name := "at", desc := "(I)I" } : Jvm.MethodName)) ∈ lw_tbl := tw_of 660 (by decide +kernel)
theorem tw_661 : (Jvm.Cond.selects "PersonSeedsModel" ({ cls := "PersonSeedsModel", name := "at", desc := "(I)I" } : Jvm.MethodName) ({ cls := "PersonSeedsModel", name := "at", desc := "(I)I" } : Jvm.MethodName)) ∈ lw_tbl := tw_of 661 (by decide +kernel)
theorem tw_662 : (Jvm.Cond.code ({ cls := "PersonSeedsModel", name := "at", desc := "(I)I" } : Jvm.MethodName) prog_7_method_22_code (2 : Nat) (Option.some Jvm.ClassFile.FieldType.int)) ∈ lw_tbl := tw_of 662 (by decide +kernel)
theorem tw_663 : (Jvm.Cond.methodLink "PersonSeedsLaw" (101 : Nat) ({ cls := "PersonSeedsModel", name := "was", desc := "(II)I" } : Jvm.MethodName)) ∈ lw_tbl := tw_of 663 (by decide +kernel)
theorem tw_664 : (Jvm.Cond.instanceMethod ({ cls := "PersonSeedsModel", name := "was", desc := "(II)I" } : Jvm.MethodName)) ∈ lw_tbl := tw_of 664 (by decide +kernel)
theorem tw_665 : (Jvm.Cond.selects "PersonSeedsModel" ({ cls := "PersonSeedsModel", name := "was", desc := "(II)I" } : Jvm.MethodName) ({ cls := "PersonSeedsModel", name := "was", desc := "(II)I" } : Jvm.MethodName)) ∈ lw_tbl := tw_of 665 (by decide +kernel)
theorem tw_666 : (Jvm.Cond.code ({ cls := "PersonSeedsModel", name := "was", desc := "(II)I" } : Jvm.MethodName) prog_7_method_24_code (3 : Nat) (Option.some Jvm.ClassFile.FieldType.int)) ∈ lw_tbl := tw_of 666 (by decide +kernel)
theorem tw_667 : (Jvm.Cond.methodLink "PersonSeedsModel" (155 : Nat) ({ cls := "PersonSeedsModel", name := "isOver", desc := "(I)Z" } : Jvm.MethodName)) ∈ lw_tbl := tw_of 667 (by decide +kernel)
theorem tw_668 : (Jvm.Cond.privateMethod ({ cls := "PersonSeedsModel", name := "isOver", desc := "(I)Z" } : Jvm.MethodName)) ∈ lw_tbl := tw_of 668 (by decide +kernel)
theorem tw_669 : (Jvm.Cond.instanceMethod ({ cls := "PersonSeedsModel", name := "isOver", desc := "(I)Z" } : Jvm.MethodName)) ∈ lw_tbl := tw_of 669 (by decide +kernel)
theorem tw_670 : (Jvm.Cond.code ({ cls := "PersonSeedsModel", name := "isOver", desc := "(I)Z" } : Jvm.MethodName) prog_7_method_23_code (2 : Nat) (Option.some Jvm.ClassFile.FieldType.boolean)) ∈ lw_tbl := tw_of 670 (by decide +kernel)
theorem tw_671 : (Jvm.Cond.methodLink "PersonSeedsLaw" (104 : Nat) ({ cls := "PersonSeedsModel", name := "waited", desc := "(I)I" } : Jvm.MethodName)) ∈ lw_tbl := tw_of 671 (by decide +kernel)
theorem tw_672 : (Jvm.Cond.instanceMethod ({ cls := "PersonSeedsModel", name := "waited", desc := "(I)I" } : Jvm.MethodName)) ∈ lw_tbl := tw_of 672 (by decide +kernel)
theorem tw_673 : (Jvm.Cond.selects "PersonSeedsModel" ({ cls := "PersonSeedsModel", name := "waited", desc := "(I)I" } : Jvm.MethodName) ({ cls := "PersonSeedsModel", name := "waited", desc := "(I)I" } : Jvm.MethodName)) ∈ lw_tbl := tw_of 673 (by decide +kernel)
theorem tw_674 : (Jvm.Cond.code ({ cls := "PersonSeedsModel", name := "waited", desc := "(I)I" } : Jvm.MethodName) prog_7_method_25_code (2 : Nat) (Option.some Jvm.ClassFile.FieldType.int)) ∈ lw_tbl := tw_of 674 (by decide +kernel)
theorem tw_675 : (Jvm.Cond.methodLink "PersonSeedsLaw" (107 : Nat) ({ cls := "PersonSeedsModel", name := "in", desc := "(II)I" } : Jvm.MethodName)) ∈ lw_tbl := tw_of 675 (by decide +kernel)
theorem tw_676 : (Jvm.Cond.instanceMethod ({ cls := "PersonSeedsModel", name := "in", desc := "(II)I" } : Jvm.MethodName)) ∈ lw_tbl := tw_of 676 (by decide +kernel)
theorem tw_677 : (Jvm.Cond.selects "PersonSeedsModel" ({ cls := "PersonSeedsModel", name := "in", desc := "(II)I" } : Jvm.MethodName) ({ cls := "PersonSeedsModel", name := "in", desc := "(II)I" } : Jvm.MethodName)) ∈ lw_tbl := tw_of 677 (by decide +kernel)
theorem tw_678 : (Jvm.Cond.code ({ cls := "PersonSeedsModel", name := "in", desc := "(II)I" } : Jvm.MethodName) prog_7_method_26_code (3 : Nat) (Option.some Jvm.ClassFile.FieldType.int)) ∈ lw_tbl := tw_of 678 (by decide +kernel)
theorem tw_679 : (Jvm.Cond.constantLong "PersonSeedsModel" (158 : Nat) (2 : Int64)) ∈ lw_tbl := tw_of 679 (by decide +kernel)
theorem tw_680 : (Jvm.Cond.methodLink "PersonSeedsLaw" (110 : Nat) ({ cls := "PersonSeedsModel", name := "inThen", desc := "(II)I" } : Jvm.MethodName)) ∈ lw_tbl := tw_of 680 (by decide +kernel)
theorem tw_681 : (Jvm.Cond.instanceMethod ({ cls := "PersonSeedsModel", name := "inThen", desc := "(II)I" } : Jvm.MethodName)) ∈ lw_tbl := tw_of 681 (by decide +kernel)
theorem tw_682 : (Jvm.Cond.selects "PersonSeedsModel" ({ cls := "PersonSeedsModel", name := "inThen", desc := "(II)I" } : Jvm.MethodName) ({ cls := "PersonSeedsModel", name := "inThen", desc := "(II)I" } : Jvm.MethodName)) ∈ lw_tbl := tw_of 682 (by decide +kernel)
theorem tw_683 : (Jvm.Cond.code ({ cls := "PersonSeedsModel", name := "inThen", desc := "(II)I" } : Jvm.MethodName) prog_7_method_27_code (5 : Nat) (Option.some Jvm.ClassFile.FieldType.int)) ∈ lw_tbl := tw_of 683 (by decide +kernel)
theorem tw_684 : (Jvm.Cond.methodLink "PersonSeedsLaw" (114 : Nat) ({ cls := "PersonSeedsModel", name := "through", desc := "(IZ)I" } : Jvm.MethodName)) ∈ lw_tbl := tw_of 684 (by decide +kernel)
theorem tw_685 : (Jvm.Cond.instanceMethod ({ cls := "PersonSeedsModel", name := "through", desc := "(IZ)I" } : Jvm.MethodName)) ∈ lw_tbl := tw_of 685 (by decide +kernel)
theorem tw_686 : (Jvm.Cond.selects "PersonSeedsModel" ({ cls := "PersonSeedsModel", name := "through", desc := "(IZ)I" } : Jvm.MethodName) ({ cls := "PersonSeedsModel", name := "through", desc := "(IZ)I" } : Jvm.MethodName)) ∈ lw_tbl := tw_of 686 (by decide +kernel)
theorem tw_687 : (Jvm.Cond.code ({ cls := "PersonSeedsModel", name := "through", desc := "(IZ)I" } : Jvm.MethodName) prog_7_method_28_code (3 : Nat) (Option.some Jvm.ClassFile.FieldType.int)) ∈ lw_tbl := tw_of 687 (by decide +kernel)
theorem tw_688 : (Jvm.Cond.methodLink "PersonSeedsLaw" (117 : Nat) ({ cls := "PersonSeedsModel", name := "distance", desc := "(II)I" } : Jvm.MethodName)) ∈ lw_tbl := tw_of 688 (by decide +kernel)
theorem tw_689 : (Jvm.Cond.instanceMethod ({ cls := "PersonSeedsModel", name := "distance", desc := "(II)I" } : Jvm.MethodName)) ∈ lw_tbl := tw_of 689 (by decide +kernel)
theorem tw_690 : (Jvm.Cond.selects "PersonSeedsModel" ({ cls := "PersonSeedsModel", name := "distance", desc := "(II)I" } : Jvm.MethodName) ({ cls := "PersonSeedsModel", name := "distance", desc := "(II)I" } : Jvm.MethodName)) ∈ lw_tbl := tw_of 690 (by decide +kernel)
theorem tw_691 : (Jvm.Cond.code ({ cls := "PersonSeedsModel", name := "distance", desc := "(II)I" } : Jvm.MethodName) prog_7_method_29_code (3 : Nat) (Option.some Jvm.ClassFile.FieldType.int)) ∈ lw_tbl := tw_of 691 (by decide +kernel)
theorem tw_692 : (Jvm.Cond.methodLink "PersonSeedsLaw" (120 : Nat) ({ cls := "PersonSeedsModel", name := "met", desc := "(II)I" } : Jvm.MethodName)) ∈ lw_tbl := tw_of 692 (by decide +kernel)
theorem tw_693 : (Jvm.Cond.instanceMethod ({ cls := "PersonSeedsModel", name := "met", desc := "(II)I" } : Jvm.MethodName)) ∈ lw_tbl := tw_of 693 (by decide +kernel)
theorem tw_694 : (Jvm.Cond.selects "PersonSeedsModel" ({ cls := "PersonSeedsModel", name := "met", desc := "(II)I" } : Jvm.MethodName) ({ cls := "PersonSeedsModel", name := "met", desc := "(II)I" } : Jvm.MethodName)) ∈ lw_tbl := tw_of 694 (by decide +kernel)
theorem tw_695 : (Jvm.Cond.code ({ cls := "PersonSeedsModel", name := "met", desc := "(II)I" } : Jvm.MethodName) prog_7_method_30_code (5 : Nat) (Option.some Jvm.ClassFile.FieldType.int)) ∈ lw_tbl := tw_of 695 (by decide +kernel)
theorem tw_696 : (Jvm.Cond.methodLink "PersonSeedsLaw" (125 : Nat) ({ cls := "PersonSeedsModel", name := "entered", desc := "(Z)I" } : Jvm.MethodName)) ∈ lw_tbl := tw_of 696 (by decide +kernel)
theorem tw_697 : (Jvm.Cond.instanceMethod ({ cls := "PersonSeedsModel", name := "entered", desc := "(Z)I" } : Jvm.MethodName)) ∈ lw_tbl := tw_of 697 (by decide +kernel)
theorem tw_698 : (Jvm.Cond.selects "PersonSeedsModel" ({ cls := "PersonSeedsModel", name := "entered", desc := "(Z)I" } : Jvm.MethodName) ({ cls := "PersonSeedsModel", name := "entered", desc := "(Z)I" } : Jvm.MethodName)) ∈ lw_tbl := tw_of 698 (by decide +kernel)
theorem tw_699 : (Jvm.Cond.code ({ cls := "PersonSeedsModel", name := "entered", desc := "(Z)I" } : Jvm.MethodName) prog_7_method_31_code (2 : Nat) (Option.some Jvm.ClassFile.FieldType.int)) ∈ lw_tbl := tw_of 699 (by decide +kernel)
theorem tw_700 : (Jvm.Cond.arrayClass Jvm.ClassFile.FieldType.long) ∈ lw_tbl := tw_of 700 (by decide +kernel)
theorem tw_701 : (Jvm.Cond.sameMethod "java/lang/Throwable" "java/lang/Throwable" "fillInStackTrace" "(I)Ljava/lang/Throwable;") ∈ lw_tbl := tw_of 701 (by decide +kernel)
end
section
/-! 'selects' of the private methods -/
theorem ts_0 : Cond.selects "java/lang/Throwable" ({ cls := "java/lang/Throwable", name := "fillInStackTrace", desc := "(I)Ljava/lang/Throwable;" } : MethodName) ({ cls := "java/lang/Throwable", name := "fillInStackTrace", desc := "(I)Ljava/lang/Throwable;" } : MethodName) ∈ lw_tbl := List.mem_append_left _ (List.mem_map.mpr ⟨(({ cls := "java/lang/Throwable", name := "fillInStackTrace", desc := "(I)Ljava/lang/Throwable;" } : MethodName), _), List.mem_of_getElem? (i := 0) rfl, rfl⟩)
theorem ts_1 : Cond.selects "PersonSeeds$Rooms" ({ cls := "PersonSeeds$Rooms", name := "add", desc := "(I)I" } : MethodName) ({ cls := "PersonSeeds$Rooms", name := "add", desc := "(I)I" } : MethodName) ∈ lw_tbl := List.mem_append_left _ (List.mem_map.mpr ⟨(({ cls := "PersonSeeds$Rooms", name := "add", desc := "(I)I" } : MethodName), _), List.mem_of_getElem? (i := 1) rfl, rfl⟩)
theorem ts_2 : Cond.selects "PersonSeeds$Persons" ({ cls := "PersonSeeds$Persons", name := "plan", desc := "(I)V" } : MethodName) ({ cls := "PersonSeeds$Persons", name := "plan", desc := "(I)V" } : MethodName) ∈ lw_tbl := List.mem_append_left _ (List.mem_map.mpr ⟨(({ cls := "PersonSeeds$Persons", name := "plan", desc := "(I)V" } : MethodName), _), List.mem_of_getElem? (i := 2) rfl, rfl⟩)
theorem ts_3 : Cond.selects "PersonSeeds$Persons" ({ cls := "PersonSeeds$Persons", name := "drawn", desc := "(III)I" } : MethodName) ({ cls := "PersonSeeds$Persons", name := "drawn", desc := "(III)I" } : MethodName) ∈ lw_tbl := List.mem_append_left _ (List.mem_map.mpr ⟨(({ cls := "PersonSeeds$Persons", name := "drawn", desc := "(III)I" } : MethodName), _), List.mem_of_getElem? (i := 3) rfl, rfl⟩)
theorem ts_4 : Cond.selects "PersonSeeds" ({ cls := "PersonSeeds", name := "checkRoom", desc := "(I)V" } : MethodName) ({ cls := "PersonSeeds", name := "checkRoom", desc := "(I)V" } : MethodName) ∈ lw_tbl := List.mem_append_left _ (List.mem_map.mpr ⟨(({ cls := "PersonSeeds", name := "checkRoom", desc := "(I)V" } : MethodName), _), List.mem_of_getElem? (i := 4) rfl, rfl⟩)
theorem ts_5 : Cond.selects "PersonSeeds$Doors" ({ cls := "PersonSeeds$Doors", name := "add", desc := "(III)I" } : MethodName) ({ cls := "PersonSeeds$Doors", name := "add", desc := "(III)I" } : MethodName) ∈ lw_tbl := List.mem_append_left _ (List.mem_map.mpr ⟨(({ cls := "PersonSeeds$Doors", name := "add", desc := "(III)I" } : MethodName), _), List.mem_of_getElem? (i := 5) rfl, rfl⟩)
theorem ts_6 : Cond.selects "PersonSeeds$Doors" ({ cls := "PersonSeeds$Doors", name := "shortenWays", desc := "(II)V" } : MethodName) ({ cls := "PersonSeeds$Doors", name := "shortenWays", desc := "(II)V" } : MethodName) ∈ lw_tbl := List.mem_append_left _ (List.mem_map.mpr ⟨(({ cls := "PersonSeeds$Doors", name := "shortenWays", desc := "(II)V" } : MethodName), _), List.mem_of_getElem? (i := 6) rfl, rfl⟩)
theorem ts_7 : Cond.selects "PersonSeeds$Doors" ({ cls := "PersonSeeds$Doors", name := "stepsBetween", desc := "(II)I" } : MethodName) ({ cls := "PersonSeeds$Doors", name := "stepsBetween", desc := "(II)I" } : MethodName) ∈ lw_tbl := List.mem_append_left _ (List.mem_map.mpr ⟨(({ cls := "PersonSeeds$Doors", name := "stepsBetween", desc := "(II)I" } : MethodName), _), List.mem_of_getElem? (i := 7) rfl, rfl⟩)
theorem ts_8 : Cond.selects "PersonSeeds$Persons" ({ cls := "PersonSeeds$Persons", name := "add", desc := "(II)V" } : MethodName) ({ cls := "PersonSeeds$Persons", name := "add", desc := "(II)V" } : MethodName) ∈ lw_tbl := List.mem_append_left _ (List.mem_map.mpr ⟨(({ cls := "PersonSeeds$Persons", name := "add", desc := "(II)V" } : MethodName), _), List.mem_of_getElem? (i := 8) rfl, rfl⟩)
theorem ts_9 : Cond.selects "PersonSeeds" ({ cls := "PersonSeeds", name := "passMinute", desc := "()V" } : MethodName) ({ cls := "PersonSeeds", name := "passMinute", desc := "()V" } : MethodName) ∈ lw_tbl := List.mem_append_left _ (List.mem_map.mpr ⟨(({ cls := "PersonSeeds", name := "passMinute", desc := "()V" } : MethodName), _), List.mem_of_getElem? (i := 9) rfl, rfl⟩)
theorem ts_10 : Cond.selects "PersonSeeds$Doors" ({ cls := "PersonSeeds$Doors", name := "beginMinute", desc := "()V" } : MethodName) ({ cls := "PersonSeeds$Doors", name := "beginMinute", desc := "()V" } : MethodName) ∈ lw_tbl := List.mem_append_left _ (List.mem_map.mpr ⟨(({ cls := "PersonSeeds$Doors", name := "beginMinute", desc := "()V" } : MethodName), _), List.mem_of_getElem? (i := 10) rfl, rfl⟩)
theorem ts_11 : Cond.selects "PersonSeeds" ({ cls := "PersonSeeds", name := "tryStep", desc := "(I)V" } : MethodName) ({ cls := "PersonSeeds", name := "tryStep", desc := "(I)V" } : MethodName) ∈ lw_tbl := List.mem_append_left _ (List.mem_map.mpr ⟨(({ cls := "PersonSeeds", name := "tryStep", desc := "(I)V" } : MethodName), _), List.mem_of_getElem? (i := 11) rfl, rfl⟩)
theorem ts_12 : Cond.selects "PersonSeeds$Trails" ({ cls := "PersonSeeds$Trails", name := "placeNow", desc := "(I)I" } : MethodName) ({ cls := "PersonSeeds$Trails", name := "placeNow", desc := "(I)I" } : MethodName) ∈ lw_tbl := List.mem_append_left _ (List.mem_map.mpr ⟨(({ cls := "PersonSeeds$Trails", name := "placeNow", desc := "(I)I" } : MethodName), _), List.mem_of_getElem? (i := 12) rfl, rfl⟩)
theorem ts_13 : Cond.selects "PersonSeeds$Persons" ({ cls := "PersonSeeds$Persons", name := "wants", desc := "(II)I" } : MethodName) ({ cls := "PersonSeeds$Persons", name := "wants", desc := "(II)I" } : MethodName) ∈ lw_tbl := List.mem_append_left _ (List.mem_map.mpr ⟨(({ cls := "PersonSeeds$Persons", name := "wants", desc := "(II)I" } : MethodName), _), List.mem_of_getElem? (i := 13) rfl, rfl⟩)
theorem ts_14 : Cond.selects "PersonSeeds" ({ cls := "PersonSeeds", name := "tryEntrance", desc := "(I)V" } : MethodName) ({ cls := "PersonSeeds", name := "tryEntrance", desc := "(I)V" } : MethodName) ∈ lw_tbl := List.mem_append_left _ (List.mem_map.mpr ⟨(({ cls := "PersonSeeds", name := "tryEntrance", desc := "(I)V" } : MethodName), _), List.mem_of_getElem? (i := 14) rfl, rfl⟩)
theorem ts_15 : Cond.selects "PersonSeeds$Rooms" ({ cls := "PersonSeeds$Rooms", name := "hasSpace", desc := "(I)Z" } : MethodName) ({ cls := "PersonSeeds$Rooms", name := "hasSpace", desc := "(I)Z" } : MethodName) ∈ lw_tbl := List.mem_append_left _ (List.mem_map.mpr ⟨(({ cls := "PersonSeeds$Rooms", name := "hasSpace", desc := "(I)Z" } : MethodName), _), List.mem_of_getElem? (i := 15) rfl, rfl⟩)
theorem ts_16 : Cond.selects "PersonSeeds$Trails" ({ cls := "PersonSeeds$Trails", name := "add", desc := "(III)V" } : MethodName) ({ cls := "PersonSeeds$Trails", name := "add", desc := "(III)V" } : MethodName) ∈ lw_tbl := List.mem_append_left _ (List.mem_map.mpr ⟨(({ cls := "PersonSeeds$Trails", name := "add", desc := "(III)V" } : MethodName), _), List.mem_of_getElem? (i := 16) rfl, rfl⟩)
theorem ts_17 : Cond.selects "PersonSeeds" ({ cls := "PersonSeeds", name := "tryDoor", desc := "(III)V" } : MethodName) ({ cls := "PersonSeeds", name := "tryDoor", desc := "(III)V" } : MethodName) ∈ lw_tbl := List.mem_append_left _ (List.mem_map.mpr ⟨(({ cls := "PersonSeeds", name := "tryDoor", desc := "(III)V" } : MethodName), _), List.mem_of_getElem? (i := 17) rfl, rfl⟩)
theorem ts_18 : Cond.selects "PersonSeeds$Doors" ({ cls := "PersonSeeds$Doors", name := "towards", desc := "(II)I" } : MethodName) ({ cls := "PersonSeeds$Doors", name := "towards", desc := "(II)I" } : MethodName) ∈ lw_tbl := List.mem_append_left _ (List.mem_map.mpr ⟨(({ cls := "PersonSeeds$Doors", name := "towards", desc := "(II)I" } : MethodName), _), List.mem_of_getElem? (i := 18) rfl, rfl⟩)
theorem ts_19 : Cond.selects "PersonSeeds$Doors" ({ cls := "PersonSeeds$Doors", name := "behind", desc := "(II)I" } : MethodName) ({ cls := "PersonSeeds$Doors", name := "behind", desc := "(II)I" } : MethodName) ∈ lw_tbl := List.mem_append_left _ (List.mem_map.mpr ⟨(({ cls := "PersonSeeds$Doors", name := "behind", desc := "(II)I" } : MethodName), _), List.mem_of_getElem? (i := 19) rfl, rfl⟩)
theorem ts_20 : Cond.selects "PersonSeeds$Doors" ({ cls := "PersonSeeds$Doors", name := "isFree", desc := "(I)Z" } : MethodName) ({ cls := "PersonSeeds$Doors", name := "isFree", desc := "(I)Z" } : MethodName) ∈ lw_tbl := List.mem_append_left _ (List.mem_map.mpr ⟨(({ cls := "PersonSeeds$Doors", name := "isFree", desc := "(I)Z" } : MethodName), _), List.mem_of_getElem? (i := 20) rfl, rfl⟩)
theorem ts_21 : Cond.selects "PersonSeeds$Doors" ({ cls := "PersonSeeds$Doors", name := "pass", desc := "(II)V" } : MethodName) ({ cls := "PersonSeeds$Doors", name := "pass", desc := "(II)V" } : MethodName) ∈ lw_tbl := List.mem_append_left _ (List.mem_map.mpr ⟨(({ cls := "PersonSeeds$Doors", name := "pass", desc := "(II)V" } : MethodName), _), List.mem_of_getElem? (i := 21) rfl, rfl⟩)
theorem ts_22 : Cond.selects "PersonSeeds" ({ cls := "PersonSeeds", name := "goOut", desc := "(I)V" } : MethodName) ({ cls := "PersonSeeds", name := "goOut", desc := "(I)V" } : MethodName) ∈ lw_tbl := List.mem_append_left _ (List.mem_map.mpr ⟨(({ cls := "PersonSeeds", name := "goOut", desc := "(I)V" } : MethodName), _), List.mem_of_getElem? (i := 22) rfl, rfl⟩)
theorem ts_23 : Cond.selects "PersonSeeds$Rooms" ({ cls := "PersonSeeds$Rooms", name := "endMinute", desc := "()V" } : MethodName) ({ cls := "PersonSeeds$Rooms", name := "endMinute", desc := "()V" } : MethodName) ∈ lw_tbl := List.mem_append_left _ (List.mem_map.mpr ⟨(({ cls := "PersonSeeds$Rooms", name := "endMinute", desc := "()V" } : MethodName), _), List.mem_of_getElem? (i := 23) rfl, rfl⟩)
theorem ts_24 : Cond.selects "PersonSeeds" ({ cls := "PersonSeeds", name := "checkPerson", desc := "(I)V" } : MethodName) ({ cls := "PersonSeeds", name := "checkPerson", desc := "(I)V" } : MethodName) ∈ lw_tbl := List.mem_append_left _ (List.mem_map.mpr ⟨(({ cls := "PersonSeeds", name := "checkPerson", desc := "(I)V" } : MethodName), _), List.mem_of_getElem? (i := 24) rfl, rfl⟩)
theorem ts_25 : Cond.selects "PersonSeeds" ({ cls := "PersonSeeds", name := "checkOver", desc := "(I)V" } : MethodName) ({ cls := "PersonSeeds", name := "checkOver", desc := "(I)V" } : MethodName) ∈ lw_tbl := List.mem_append_left _ (List.mem_map.mpr ⟨(({ cls := "PersonSeeds", name := "checkOver", desc := "(I)V" } : MethodName), _), List.mem_of_getElem? (i := 25) rfl, rfl⟩)
theorem ts_26 : Cond.selects "PersonSeeds$Trails" ({ cls := "PersonSeeds$Trails", name := "placeBehind", desc := "(II)I" } : MethodName) ({ cls := "PersonSeeds$Trails", name := "placeBehind", desc := "(II)I" } : MethodName) ∈ lw_tbl := List.mem_append_left _ (List.mem_map.mpr ⟨(({ cls := "PersonSeeds$Trails", name := "placeBehind", desc := "(II)I" } : MethodName), _), List.mem_of_getElem? (i := 26) rfl, rfl⟩)
theorem ts_27 : Cond.selects "PersonSeeds$Trails" ({ cls := "PersonSeeds$Trails", name := "firstJoining", desc := "(II)I" } : MethodName) ({ cls := "PersonSeeds$Trails", name := "firstJoining", desc := "(II)I" } : MethodName) ∈ lw_tbl := List.mem_append_left _ (List.mem_map.mpr ⟨(({ cls := "PersonSeeds$Trails", name := "firstJoining", desc := "(II)I" } : MethodName), _), List.mem_of_getElem? (i := 27) rfl, rfl⟩)
theorem ts_28 : Cond.selects "PersonSeedsModel" ({ cls := "PersonSeedsModel", name := "may", desc := "(ZZ)Z" } : MethodName) ({ cls := "PersonSeedsModel", name := "may", desc := "(ZZ)Z" } : MethodName) ∈ lw_tbl := List.mem_append_left _ (List.mem_map.mpr ⟨(({ cls := "PersonSeedsModel", name := "may", desc := "(ZZ)Z" } : MethodName), _), List.mem_of_getElem? (i := 28) rfl, rfl⟩)
theorem ts_29 : Cond.selects "PersonSeedsModel" ({ cls := "PersonSeedsModel", name := "isRoom", desc := "(I)Z" } : MethodName) ({ cls := "PersonSeedsModel", name := "isRoom", desc := "(I)Z" } : MethodName) ∈ lw_tbl := List.mem_append_left _ (List.mem_map.mpr ⟨(({ cls := "PersonSeedsModel", name := "isRoom", desc := "(I)Z" } : MethodName), _), List.mem_of_getElem? (i := 29) rfl, rfl⟩)
theorem ts_30 : Cond.selects "PersonSeedsModel" ({ cls := "PersonSeedsModel", name := "shorten", desc := "(II)V" } : MethodName) ({ cls := "PersonSeedsModel", name := "shorten", desc := "(II)V" } : MethodName) ∈ lw_tbl := List.mem_append_left _ (List.mem_map.mpr ⟨(({ cls := "PersonSeedsModel", name := "shorten", desc := "(II)V" } : MethodName), _), List.mem_of_getElem? (i := 30) rfl, rfl⟩)
theorem ts_31 : Cond.selects "PersonSeedsModel" ({ cls := "PersonSeedsModel", name := "drawn", desc := "(III)I" } : MethodName) ({ cls := "PersonSeedsModel", name := "drawn", desc := "(III)I" } : MethodName) ∈ lw_tbl := List.mem_append_left _ (List.mem_map.mpr ⟨(({ cls := "PersonSeedsModel", name := "drawn", desc := "(III)I" } : MethodName), _), List.mem_of_getElem? (i := 31) rfl, rfl⟩)
theorem ts_32 : Cond.selects "PersonSeedsModel" ({ cls := "PersonSeedsModel", name := "oneMinute", desc := "()V" } : MethodName) ({ cls := "PersonSeedsModel", name := "oneMinute", desc := "()V" } : MethodName) ∈ lw_tbl := List.mem_append_left _ (List.mem_map.mpr ⟨(({ cls := "PersonSeedsModel", name := "oneMinute", desc := "()V" } : MethodName), _), List.mem_of_getElem? (i := 32) rfl, rfl⟩)
theorem ts_33 : Cond.selects "PersonSeedsModel" ({ cls := "PersonSeedsModel", name := "step", desc := "(I)V" } : MethodName) ({ cls := "PersonSeedsModel", name := "step", desc := "(I)V" } : MethodName) ∈ lw_tbl := List.mem_append_left _ (List.mem_map.mpr ⟨(({ cls := "PersonSeedsModel", name := "step", desc := "(I)V" } : MethodName), _), List.mem_of_getElem? (i := 33) rfl, rfl⟩)
theorem ts_34 : Cond.selects "PersonSeedsModel" ({ cls := "PersonSeedsModel", name := "wants", desc := "(I)I" } : MethodName) ({ cls := "PersonSeedsModel", name := "wants", desc := "(I)I" } : MethodName) ∈ lw_tbl := List.mem_append_left _ (List.mem_map.mpr ⟨(({ cls := "PersonSeedsModel", name := "wants", desc := "(I)I" } : MethodName), _), List.mem_of_getElem? (i := 34) rfl, rfl⟩)
theorem ts_35 : Cond.selects "PersonSeedsModel" ({ cls := "PersonSeedsModel", name := "tell", desc := "(II)I" } : MethodName) ({ cls := "PersonSeedsModel", name := "tell", desc := "(II)I" } : MethodName) ∈ lw_tbl := List.mem_append_left _ (List.mem_map.mpr ⟨(({ cls := "PersonSeedsModel", name := "tell", desc := "(II)I" } : MethodName), _), List.mem_of_getElem? (i := 35) rfl, rfl⟩)
theorem ts_36 : Cond.selects "PersonSeedsModel" ({ cls := "PersonSeedsModel", name := "goes", desc := "(II)Z" } : MethodName) ({ cls := "PersonSeedsModel", name := "goes", desc := "(II)Z" } : MethodName) ∈ lw_tbl := List.mem_append_left _ (List.mem_map.mpr ⟨(({ cls := "PersonSeedsModel", name := "goes", desc := "(II)Z" } : MethodName), _), List.mem_of_getElem? (i := 36) rfl, rfl⟩)
theorem ts_37 : Cond.selects "PersonSeedsModel" ({ cls := "PersonSeedsModel", name := "throughDoor", desc := "(II)V" } : MethodName) ({ cls := "PersonSeedsModel", name := "throughDoor", desc := "(II)V" } : MethodName) ∈ lw_tbl := List.mem_append_left _ (List.mem_map.mpr ⟨(({ cls := "PersonSeedsModel", name := "throughDoor", desc := "(II)V" } : MethodName), _), List.mem_of_getElem? (i := 37) rfl, rfl⟩)
theorem ts_38 : Cond.selects "PersonSeedsModel" ({ cls := "PersonSeedsModel", name := "doorOf", desc := "(II)I" } : MethodName) ({ cls := "PersonSeedsModel", name := "doorOf", desc := "(II)I" } : MethodName) ∈ lw_tbl := List.mem_append_left _ (List.mem_map.mpr ⟨(({ cls := "PersonSeedsModel", name := "doorOf", desc := "(II)I" } : MethodName), _), List.mem_of_getElem? (i := 38) rfl, rfl⟩)
theorem ts_39 : Cond.selects "PersonSeedsModel" ({ cls := "PersonSeedsModel", name := "isPerson", desc := "(I)Z" } : MethodName) ({ cls := "PersonSeedsModel", name := "isPerson", desc := "(I)Z" } : MethodName) ∈ lw_tbl := List.mem_append_left _ (List.mem_map.mpr ⟨(({ cls := "PersonSeedsModel", name := "isPerson", desc := "(I)Z" } : MethodName), _), List.mem_of_getElem? (i := 39) rfl, rfl⟩)
theorem ts_40 : Cond.selects "PersonSeedsModel" ({ cls := "PersonSeedsModel", name := "isOver", desc := "(I)Z" } : MethodName) ({ cls := "PersonSeedsModel", name := "isOver", desc := "(I)Z" } : MethodName) ∈ lw_tbl := List.mem_append_left _ (List.mem_map.mpr ⟨(({ cls := "PersonSeedsModel", name := "isOver", desc := "(I)Z" } : MethodName), _), List.mem_of_getElem? (i := 40) rfl, rfl⟩)
end
section
/-! methods: code and name; classes: fields in the order of the slots -/
abbrev c_PS_init : ByteArray := prog_1_method_1_code
abbrev y_PS_init : MethodName := { cls := "PersonSeeds", name := "<init>", desc := "(J)V" }
abbrev c_PS_arrives : ByteArray := prog_1_method_4_code
abbrev y_PS_arrives : MethodName := { cls := "PersonSeeds", name := "arrives", desc := "(II)I" }
abbrev c_PS_at : ByteArray := prog_1_method_8_code
abbrev y_PS_at : MethodName := { cls := "PersonSeeds", name := "at", desc := "(I)I" }
abbrev c_PS_checkBounds : ByteArray := prog_1_method_20_code
abbrev y_PS_checkBounds : MethodName := { cls := "PersonSeeds", name := "checkBounds", desc := "(III)V" }
abbrev c_PS_checkDifferent : ByteArray := prog_1_method_21_code
abbrev y_PS_checkDifferent : MethodName := { cls := "PersonSeeds", name := "checkDifferent", desc := "(II)V" }
abbrev c_PS_checkOver : ByteArray := prog_1_method_19_code
abbrev y_PS_checkOver : MethodName := { cls := "PersonSeeds", name := "checkOver", desc := "(I)V" }
abbrev c_PS_checkPerson : ByteArray := prog_1_method_18_code
abbrev y_PS_checkPerson : MethodName := { cls := "PersonSeeds", name := "checkPerson", desc := "(I)V" }
abbrev c_PS_checkRoom : ByteArray := prog_1_method_17_code
abbrev y_PS_checkRoom : MethodName := { cls := "PersonSeeds", name := "checkRoom", desc := "(I)V" }
abbrev c_PS_checkState : ByteArray := prog_1_method_22_code
abbrev y_PS_checkState : MethodName := { cls := "PersonSeeds", name := "checkState", desc := "(Z)V" }
abbrev c_PS_distance : ByteArray := prog_1_method_14_code
abbrev y_PS_distance : MethodName := { cls := "PersonSeeds", name := "distance", desc := "(II)I" }
abbrev c_PS_door : ByteArray := prog_1_method_3_code
abbrev y_PS_door : MethodName := { cls := "PersonSeeds", name := "door", desc := "(III)I" }
abbrev c_PS_draw : ByteArray := prog_1_method_5_code
abbrev y_PS_draw : MethodName := { cls := "PersonSeeds", name := "draw", desc := "(III)I" }
abbrev c_PS_entered : ByteArray := prog_1_method_16_code
abbrev y_PS_entered : MethodName := { cls := "PersonSeeds", name := "entered", desc := "(Z)I" }
abbrev c_PS_goOut : ByteArray := prog_1_method_26_code
abbrev y_PS_goOut : MethodName := { cls := "PersonSeeds", name := "goOut", desc := "(I)V" }
abbrev c_PS_in : ByteArray := prog_1_method_11_code
abbrev y_PS_in : MethodName := { cls := "PersonSeeds", name := "in", desc := "(II)I" }
abbrev c_PS_inThen : ByteArray := prog_1_method_12_code
abbrev y_PS_inThen : MethodName := { cls := "PersonSeeds", name := "inThen", desc := "(II)I" }
abbrev c_PS_met : ByteArray := prog_1_method_15_code
abbrev y_PS_met : MethodName := { cls := "PersonSeeds", name := "met", desc := "(II)I" }
abbrev c_PS_passMinute : ByteArray := prog_1_method_23_code
abbrev y_PS_passMinute : MethodName := { cls := "PersonSeeds", name := "passMinute", desc := "()V" }
abbrev c_PS_person : ByteArray := prog_1_method_7_code
abbrev y_PS_person : MethodName := { cls := "PersonSeeds", name := "person", desc := "(II)I" }
abbrev c_PS_room : ByteArray := prog_1_method_2_code
abbrev y_PS_room : MethodName := { cls := "PersonSeeds", name := "room", desc := "(I)I" }
abbrev c_PS_run : ByteArray := prog_1_method_6_code
abbrev y_PS_run : MethodName := { cls := "PersonSeeds", name := "run", desc := "(I)I" }
abbrev c_PS_through : ByteArray := prog_1_method_13_code
abbrev y_PS_through : MethodName := { cls := "PersonSeeds", name := "through", desc := "(IZ)I" }
abbrev c_PS_tryDoor : ByteArray := prog_1_method_27_code
abbrev y_PS_tryDoor : MethodName := { cls := "PersonSeeds", name := "tryDoor", desc := "(III)V" }
abbrev c_PS_tryEntrance : ByteArray := prog_1_method_25_code
abbrev y_PS_tryEntrance : MethodName := { cls := "PersonSeeds", name := "tryEntrance", desc := "(I)V" }
abbrev c_PS_tryStep : ByteArray := prog_1_method_24_code
abbrev y_PS_tryStep : MethodName := { cls := "PersonSeeds", name := "tryStep", desc := "(I)V" }
abbrev c_PS_waited : ByteArray := prog_1_method_10_code
abbrev y_PS_waited : MethodName := { cls := "PersonSeeds", name := "waited", desc := "(I)I" }
abbrev c_PS_was : ByteArray := prog_1_method_9_code
abbrev y_PS_was : MethodName := { cls := "PersonSeeds", name := "was", desc := "(II)I" }
abbrev c_Do_init : ByteArray := prog_2_method_1_code
abbrev y_Do_init : MethodName := { cls := "PersonSeeds$Doors", name := "<init>", desc := "()V" }
abbrev c_Do_add : ByteArray := prog_2_method_2_code
abbrev y_Do_add : MethodName := { cls := "PersonSeeds$Doors", name := "add", desc := "(III)I" }
abbrev c_Do_beginMinute : ByteArray := prog_2_method_7_code
abbrev y_Do_beginMinute : MethodName := { cls := "PersonSeeds$Doors", name := "beginMinute", desc := "()V" }
abbrev c_Do_behind : ByteArray := prog_2_method_5_code
abbrev y_Do_behind : MethodName := { cls := "PersonSeeds$Doors", name := "behind", desc := "(II)I" }
abbrev c_Do_isFree : ByteArray := prog_2_method_8_code
abbrev y_Do_isFree : MethodName := { cls := "PersonSeeds$Doors", name := "isFree", desc := "(I)Z" }
abbrev c_Do_pass : ByteArray := prog_2_method_9_code
abbrev y_Do_pass : MethodName := { cls := "PersonSeeds$Doors", name := "pass", desc := "(II)V" }
abbrev c_Do_shortenWays : ByteArray := prog_2_method_3_code
abbrev y_Do_shortenWays : MethodName := { cls := "PersonSeeds$Doors", name := "shortenWays", desc := "(II)V" }
abbrev c_Do_stepsBetween : ByteArray := prog_2_method_4_code
abbrev y_Do_stepsBetween : MethodName := { cls := "PersonSeeds$Doors", name := "stepsBetween", desc := "(II)I" }
abbrev c_Do_towards : ByteArray := prog_2_method_6_code
abbrev y_Do_towards : MethodName := { cls := "PersonSeeds$Doors", name := "towards", desc := "(II)I" }
abbrev c_Pe_init : ByteArray := prog_3_method_1_code
abbrev y_Pe_init : MethodName := { cls := "PersonSeeds$Persons", name := "<init>", desc := "(J)V" }
abbrev c_Pe_add : ByteArray := prog_3_method_2_code
abbrev y_Pe_add : MethodName := { cls := "PersonSeeds$Persons", name := "add", desc := "(II)V" }
abbrev c_Pe_drawn : ByteArray := prog_3_method_4_code
abbrev y_Pe_drawn : MethodName := { cls := "PersonSeeds$Persons", name := "drawn", desc := "(III)I" }
abbrev c_Pe_plan : ByteArray := prog_3_method_3_code
abbrev y_Pe_plan : MethodName := { cls := "PersonSeeds$Persons", name := "plan", desc := "(I)V" }
abbrev c_Pe_wants : ByteArray := prog_3_method_5_code
abbrev y_Pe_wants : MethodName := { cls := "PersonSeeds$Persons", name := "wants", desc := "(II)I" }
abbrev c_Ro_init : ByteArray := prog_4_method_1_code
abbrev y_Ro_init : MethodName := { cls := "PersonSeeds$Rooms", name := "<init>", desc := "()V" }
abbrev c_Ro_add : ByteArray := prog_4_method_2_code
abbrev y_Ro_add : MethodName := { cls := "PersonSeeds$Rooms", name := "add", desc := "(I)I" }
abbrev c_Ro_endMinute : ByteArray := prog_4_method_4_code
abbrev y_Ro_endMinute : MethodName := { cls := "PersonSeeds$Rooms", name := "endMinute", desc := "()V" }
abbrev c_Ro_hasSpace : ByteArray := prog_4_method_3_code
abbrev y_Ro_hasSpace : MethodName := { cls := "PersonSeeds$Rooms", name := "hasSpace", desc := "(I)Z" }
abbrev c_Tr_init : ByteArray := prog_5_method_1_code
abbrev y_Tr_init : MethodName := { cls := "PersonSeeds$Trails", name := "<init>", desc := "()V" }
abbrev c_Tr_add : ByteArray := prog_5_method_2_code
abbrev y_Tr_add : MethodName := { cls := "PersonSeeds$Trails", name := "add", desc := "(III)V" }
abbrev c_Tr_firstJoining : ByteArray := prog_5_method_5_code
abbrev y_Tr_firstJoining : MethodName := { cls := "PersonSeeds$Trails", name := "firstJoining", desc := "(II)I" }
abbrev c_Tr_placeBehind : ByteArray := prog_5_method_4_code
abbrev y_Tr_placeBehind : MethodName := { cls := "PersonSeeds$Trails", name := "placeBehind", desc := "(II)I" }
abbrev c_Tr_placeNow : ByteArray := prog_5_method_3_code
abbrev y_Tr_placeNow : MethodName := { cls := "PersonSeeds$Trails", name := "placeNow", desc := "(I)I" }
abbrev c_La_arrives : ByteArray := method_5_code
abbrev y_La_arrives : MethodName := { cls := "PersonSeedsLaw", name := "arrives", desc := "(LPersonSeeds;II[J)I" }
abbrev c_La_at : ByteArray := method_9_code
abbrev y_La_at : MethodName := { cls := "PersonSeedsLaw", name := "at", desc := "(LPersonSeeds;I[J)I" }
abbrev c_La_cell : ByteArray := method_2_code
abbrev y_La_cell : MethodName := { cls := "PersonSeedsLaw", name := "cell", desc := "([II)I" }
abbrev c_La_distance : ByteArray := method_15_code
abbrev y_La_distance : MethodName := { cls := "PersonSeedsLaw", name := "distance", desc := "(LPersonSeeds;II[J)I" }
abbrev c_La_door : ByteArray := method_4_code
abbrev y_La_door : MethodName := { cls := "PersonSeedsLaw", name := "door", desc := "(LPersonSeeds;III[J)I" }
abbrev c_La_draw : ByteArray := method_6_code
abbrev y_La_draw : MethodName := { cls := "PersonSeedsLaw", name := "draw", desc := "(LPersonSeeds;III[J)I" }
abbrev c_La_in : ByteArray := method_12_code
abbrev y_La_in : MethodName := { cls := "PersonSeedsLaw", name := "in", desc := "(LPersonSeeds;II[J)I" }
abbrev c_La_inThen : ByteArray := method_13_code
abbrev y_La_inThen : MethodName := { cls := "PersonSeedsLaw", name := "inThen", desc := "(LPersonSeeds;II[J)I" }
abbrev c_La_met : ByteArray := method_16_code
abbrev y_La_met : MethodName := { cls := "PersonSeedsLaw", name := "met", desc := "(LPersonSeeds;II[J)I" }
abbrev c_La_person : ByteArray := method_8_code
abbrev y_La_person : MethodName := { cls := "PersonSeedsLaw", name := "person", desc := "(LPersonSeeds;II[J)I" }
abbrev c_La_room : ByteArray := method_3_code
abbrev y_La_room : MethodName := { cls := "PersonSeedsLaw", name := "room", desc := "(LPersonSeeds;I[J)I" }
abbrev c_La_run : ByteArray := method_7_code
abbrev y_La_run : MethodName := { cls := "PersonSeedsLaw", name := "run", desc := "(LPersonSeeds;I[J)I" }
abbrev c_La_through : ByteArray := method_14_code
abbrev y_La_through : MethodName := { cls := "PersonSeedsLaw", name := "through", desc := "(LPersonSeeds;IZ[J)I" }
abbrev c_La_waited : ByteArray := method_11_code
abbrev y_La_waited : MethodName := { cls := "PersonSeedsLaw", name := "waited", desc := "(LPersonSeeds;I[J)I" }
abbrev c_La_was : ByteArray := method_10_code
abbrev y_La_was : MethodName := { cls := "PersonSeedsLaw", name := "was", desc := "(LPersonSeeds;II[J)I" }
abbrev c_Mo_init : ByteArray := prog_7_method_1_code
abbrev y_Mo_init : MethodName := { cls := "PersonSeedsModel", name := "<init>", desc := "(J)V" }
abbrev c_Mo_arrives : ByteArray := prog_7_method_10_code
abbrev y_Mo_arrives : MethodName := { cls := "PersonSeedsModel", name := "arrives", desc := "(II)I" }
abbrev c_Mo_at : ByteArray := prog_7_method_22_code
abbrev y_Mo_at : MethodName := { cls := "PersonSeedsModel", name := "at", desc := "(I)I" }
abbrev c_Mo_distance : ByteArray := prog_7_method_29_code
abbrev y_Mo_distance : MethodName := { cls := "PersonSeedsModel", name := "distance", desc := "(II)I" }
abbrev c_Mo_door : ByteArray := prog_7_method_8_code
abbrev y_Mo_door : MethodName := { cls := "PersonSeedsModel", name := "door", desc := "(III)I" }
abbrev c_Mo_doorOf : ByteArray := prog_7_method_16_code
abbrev y_Mo_doorOf : MethodName := { cls := "PersonSeedsModel", name := "doorOf", desc := "(II)I" }
abbrev c_Mo_draw : ByteArray := prog_7_method_12_code
abbrev y_Mo_draw : MethodName := { cls := "PersonSeedsModel", name := "draw", desc := "(III)I" }
abbrev c_Mo_drawn : ByteArray := prog_7_method_11_code
abbrev y_Mo_drawn : MethodName := { cls := "PersonSeedsModel", name := "drawn", desc := "(III)I" }
abbrev c_Mo_entered : ByteArray := prog_7_method_31_code
abbrev y_Mo_entered : MethodName := { cls := "PersonSeedsModel", name := "entered", desc := "(Z)I" }
abbrev c_Mo_goes : ByteArray := prog_7_method_15_code
abbrev y_Mo_goes : MethodName := { cls := "PersonSeedsModel", name := "goes", desc := "(II)Z" }
abbrev c_Mo_in : ByteArray := prog_7_method_26_code
abbrev y_Mo_in : MethodName := { cls := "PersonSeedsModel", name := "in", desc := "(II)I" }
abbrev c_Mo_inThen : ByteArray := prog_7_method_27_code
abbrev y_Mo_inThen : MethodName := { cls := "PersonSeedsModel", name := "inThen", desc := "(II)I" }
abbrev c_Mo_isOver : ByteArray := prog_7_method_23_code
abbrev y_Mo_isOver : MethodName := { cls := "PersonSeedsModel", name := "isOver", desc := "(I)Z" }
abbrev c_Mo_isPerson : ByteArray := prog_7_method_6_code
abbrev y_Mo_isPerson : MethodName := { cls := "PersonSeedsModel", name := "isPerson", desc := "(I)Z" }
abbrev c_Mo_isRoom : ByteArray := prog_7_method_5_code
abbrev y_Mo_isRoom : MethodName := { cls := "PersonSeedsModel", name := "isRoom", desc := "(I)Z" }
abbrev c_Mo_may : ByteArray := prog_7_method_3_code
abbrev y_Mo_may : MethodName := { cls := "PersonSeedsModel", name := "may", desc := "(ZZ)Z" }
abbrev c_Mo_met : ByteArray := prog_7_method_30_code
abbrev y_Mo_met : MethodName := { cls := "PersonSeedsModel", name := "met", desc := "(II)I" }
abbrev c_Mo_oneMinute : ByteArray := prog_7_method_19_code
abbrev y_Mo_oneMinute : MethodName := { cls := "PersonSeedsModel", name := "oneMinute", desc := "()V" }
abbrev c_Mo_person : ByteArray := prog_7_method_21_code
abbrev y_Mo_person : MethodName := { cls := "PersonSeedsModel", name := "person", desc := "(II)I" }
abbrev c_Mo_room : ByteArray := prog_7_method_7_code
abbrev y_Mo_room : MethodName := { cls := "PersonSeedsModel", name := "room", desc := "(I)I" }
abbrev c_Mo_run : ByteArray := prog_7_method_20_code
abbrev y_Mo_run : MethodName := { cls := "PersonSeedsModel", name := "run", desc := "(I)I" }
abbrev c_Mo_shorten : ByteArray := prog_7_method_9_code
abbrev y_Mo_shorten : MethodName := { cls := "PersonSeedsModel", name := "shorten", desc := "(II)V" }
abbrev c_Mo_step : ByteArray := prog_7_method_18_code
abbrev y_Mo_step : MethodName := { cls := "PersonSeedsModel", name := "step", desc := "(I)V" }
abbrev c_Mo_tell : ByteArray := prog_7_method_13_code
abbrev y_Mo_tell : MethodName := { cls := "PersonSeedsModel", name := "tell", desc := "(II)I" }
abbrev c_Mo_through : ByteArray := prog_7_method_28_code
abbrev y_Mo_through : MethodName := { cls := "PersonSeedsModel", name := "through", desc := "(IZ)I" }
abbrev c_Mo_throughDoor : ByteArray := prog_7_method_17_code
abbrev y_Mo_throughDoor : MethodName := { cls := "PersonSeedsModel", name := "throughDoor", desc := "(II)V" }
abbrev c_Mo_thrown : ByteArray := prog_7_method_2_code
abbrev y_Mo_thrown : MethodName := { cls := "PersonSeedsModel", name := "thrown", desc := "()I" }
abbrev c_Mo_waited : ByteArray := prog_7_method_25_code
abbrev y_Mo_waited : MethodName := { cls := "PersonSeedsModel", name := "waited", desc := "(I)I" }
abbrev c_Mo_wants : ByteArray := prog_7_method_14_code
abbrev y_Mo_wants : MethodName := { cls := "PersonSeedsModel", name := "wants", desc := "(I)I" }
abbrev c_Mo_was : ByteArray := prog_7_method_24_code
abbrev y_Mo_was : MethodName := { cls := "PersonSeedsModel", name := "was", desc := "(II)I" }
abbrev c_Mo_within : ByteArray := prog_7_method_4_code
abbrev y_Mo_within : MethodName := { cls := "PersonSeedsModel", name := "within", desc := "(JJJ)Z" }
abbrev c_Ar_fill : ByteArray := prog_15_method_103_code
abbrev y_Ar_fill : MethodName := { cls := "java/util/Arrays", name := "fill", desc := "([II)V" }
def T_PS : u_T := fun k => match k with
  | 0 => ("PersonSeeds", "rooms", "LPersonSeeds$Rooms;", true)
  | 1 => ("PersonSeeds", "doors", "LPersonSeeds$Doors;", true)
  | 2 => ("PersonSeeds", "trails", "LPersonSeeds$Trails;", true)
  | 3 => ("PersonSeeds", "persons", "LPersonSeeds$Persons;", true)
  | 4 => ("PersonSeeds", "minute", "I", false)
  | 5 => ("PersonSeeds", "cameIn", "I", false)
  | _ => ("PersonSeeds", "wentOut", "I", false)
def ty_PS : Nat → FieldType := fun k => match k with
  | 0 => .object "PersonSeeds$Rooms"
  | 1 => .object "PersonSeeds$Doors"
  | 2 => .object "PersonSeeds$Trails"
  | 3 => .object "PersonSeeds$Persons"
  | 4 => .int
  | 5 => .int
  | _ => .int
theorem n_PS : ∀ a, a < 7 → ∀ b, b < 7 → a ≠ b → (T_PS a).2.1 ≠ (T_PS b).2.1 := by decide +kernel
theorem tyo_PS : ∀ k, k < 7 → parseFieldDescriptor (T_PS k).2.2.1 = some (ty_PS k) := by decide +kernel
theorem iw_PS : ∀ w ∈ u_ws "PersonSeeds" T_PS 7, w ∈ lw_tbl ∧ goodWord w = true := by decide +kernel
def T_Ro : u_T := fun k => match k with
  | 0 => ("PersonSeeds$Rooms", "count", "I", false)
  | 1 => ("PersonSeeds$Rooms", "cells", "[I", true)
  | 2 => ("PersonSeeds$Rooms", "inside", "[I", true)
  | 3 => ("PersonSeeds$Rooms", "most", "[I", true)
  | _ => ("PersonSeeds$Rooms", "fullEnds", "[I", true)
def ty_Ro : Nat → FieldType := fun k => match k with
  | 0 => .int
  | 1 => .array .int
  | 2 => .array .int
  | 3 => .array .int
  | _ => .array .int
theorem n_Ro : ∀ a, a < 5 → ∀ b, b < 5 → a ≠ b → (T_Ro a).2.1 ≠ (T_Ro b).2.1 := by decide +kernel
theorem tyo_Ro : ∀ k, k < 5 → parseFieldDescriptor (T_Ro k).2.2.1 = some (ty_Ro k) := by decide +kernel
theorem iw_Ro : ∀ w ∈ u_ws "PersonSeeds$Rooms" T_Ro 5, w ∈ lw_tbl ∧ goodWord w = true := by decide +kernel
def T_Do : u_T := fun k => match k with
  | 0 => ("PersonSeeds$Doors", "count", "I", false)
  | 1 => ("PersonSeeds$Doors", "near", "[I", true)
  | 2 => ("PersonSeeds$Doors", "far", "[I", true)
  | 3 => ("PersonSeeds$Doors", "width", "[I", true)
  | 4 => ("PersonSeeds$Doors", "wentOn", "[I", true)
  | 5 => ("PersonSeeds$Doors", "wentBack", "[I", true)
  | 6 => ("PersonSeeds$Doors", "wentNow", "[I", true)
  | _ => ("PersonSeeds$Doors", "steps", "[I", true)
def ty_Do : Nat → FieldType := fun k => match k with
  | 0 => .int
  | 1 => .array .int
  | 2 => .array .int
  | 3 => .array .int
  | 4 => .array .int
  | 5 => .array .int
  | 6 => .array .int
  | _ => .array .int
theorem n_Do : ∀ a, a < 8 → ∀ b, b < 8 → a ≠ b → (T_Do a).2.1 ≠ (T_Do b).2.1 := by decide +kernel
theorem tyo_Do : ∀ k, k < 8 → parseFieldDescriptor (T_Do k).2.2.1 = some (ty_Do k) := by decide +kernel
theorem iw_Do : ∀ w ∈ u_ws "PersonSeeds$Doors" T_Do 8, w ∈ lw_tbl ∧ goodWord w = true := by decide +kernel
def T_Tr : u_T := fun k => match k with
  | 0 => ("PersonSeeds$Trails", "moves", "[I", true)
  | 1 => ("PersonSeeds$Trails", "minutes", "[I", true)
  | _ => ("PersonSeeds$Trails", "places", "[I", true)
def ty_Tr : Nat → FieldType := fun k => match k with
  | 0 => .array .int
  | 1 => .array .int
  | _ => .array .int
theorem n_Tr : ∀ a, a < 3 → ∀ b, b < 3 → a ≠ b → (T_Tr a).2.1 ≠ (T_Tr b).2.1 := by decide +kernel
theorem tyo_Tr : ∀ k, k < 3 → parseFieldDescriptor (T_Tr k).2.2.1 = some (ty_Tr k) := by decide +kernel
theorem iw_Tr : ∀ w ∈ u_ws "PersonSeeds$Trails" T_Tr 3, w ∈ lw_tbl ∧ goodWord w = true := by decide +kernel
def T_Pe : u_T := fun k => match k with
  | 0 => ("PersonSeeds$Persons", "seed", "J", true)
  | 1 => ("PersonSeeds$Persons", "count", "I", false)
  | 2 => ("PersonSeeds$Persons", "comes", "[I", true)
  | 3 => ("PersonSeeds$Persons", "desk", "[I", true)
  | 4 => ("PersonSeeds$Persons", "eatsFrom", "[I", true)
  | 5 => ("PersonSeeds$Persons", "eatsUntil", "[I", true)
  | 6 => ("PersonSeeds$Persons", "eatsIn", "[I", true)
  | 7 => ("PersonSeeds$Persons", "leaves", "[I", true)
  | _ => ("PersonSeeds$Persons", "waits", "[I", true)
def ty_Pe : Nat → FieldType := fun k => match k with
  | 0 => .long
  | 1 => .int
  | 2 => .array .int
  | 3 => .array .int
  | 4 => .array .int
  | 5 => .array .int
  | 6 => .array .int
  | 7 => .array .int
  | _ => .array .int
theorem n_Pe : ∀ a, a < 9 → ∀ b, b < 9 → a ≠ b → (T_Pe a).2.1 ≠ (T_Pe b).2.1 := by decide +kernel
theorem tyo_Pe : ∀ k, k < 9 → parseFieldDescriptor (T_Pe k).2.2.1 = some (ty_Pe k) := by decide +kernel
theorem iw_Pe : ∀ w ∈ u_ws "PersonSeeds$Persons" T_Pe 9, w ∈ lw_tbl ∧ goodWord w = true := by decide +kernel
def T_Mo : u_T := fun k => match k with
  | 0 => ("PersonSeedsModel", "seed", "J", true)
  | 1 => ("PersonSeedsModel", "fault", "I", false)
  | 2 => ("PersonSeedsModel", "minute", "I", false)
  | 3 => ("PersonSeedsModel", "rooms", "I", false)
  | 4 => ("PersonSeedsModel", "cells", "[I", true)
  | 5 => ("PersonSeedsModel", "there", "[I", true)
  | 6 => ("PersonSeedsModel", "most", "[I", true)
  | 7 => ("PersonSeedsModel", "full", "[I", true)
  | 8 => ("PersonSeedsModel", "far", "[I", true)
  | 9 => ("PersonSeedsModel", "doors", "I", false)
  | 10 => ("PersonSeedsModel", "from", "[I", true)
  | 11 => ("PersonSeedsModel", "to", "[I", true)
  | 12 => ("PersonSeedsModel", "width", "[I", true)
  | 13 => ("PersonSeedsModel", "gone", "[I", true)
  | 14 => ("PersonSeedsModel", "onward", "[I", true)
  | 15 => ("PersonSeedsModel", "backward", "[I", true)
  | 16 => ("PersonSeedsModel", "persons", "I", false)
  | 17 => ("PersonSeedsModel", "comes", "[I", true)
  | 18 => ("PersonSeedsModel", "place", "[I", true)
  | 19 => ("PersonSeedsModel", "waits", "[I", true)
  | 20 => ("PersonSeedsModel", "past", "[B", true)
  | 21 => ("PersonSeedsModel", "cameIn", "I", false)
  | _ => ("PersonSeedsModel", "wentOut", "I", false)
def ty_Mo : Nat → FieldType := fun k => match k with
  | 0 => .long
  | 1 => .int
  | 2 => .int
  | 3 => .int
  | 4 => .array .int
  | 5 => .array .int
  | 6 => .array .int
  | 7 => .array .int
  | 8 => .array .int
  | 9 => .int
  | 10 => .array .int
  | 11 => .array .int
  | 12 => .array .int
  | 13 => .array .int
  | 14 => .array .int
  | 15 => .array .int
  | 16 => .int
  | 17 => .array .int
  | 18 => .array .int
  | 19 => .array .int
  | 20 => .array .byte
  | 21 => .int
  | _ => .int
theorem n_Mo : ∀ a, a < 23 → ∀ b, b < 23 → a ≠ b → (T_Mo a).2.1 ≠ (T_Mo b).2.1 := by decide +kernel
theorem tyo_Mo : ∀ k, k < 23 → parseFieldDescriptor (T_Mo k).2.2.1 = some (ty_Mo k) := by decide +kernel
theorem iw_Mo : ∀ w ∈ u_ws "PersonSeedsModel" T_Mo 23, w ∈ lw_tbl ∧ goodWord w = true := by decide +kernel
abbrev zCl : List vw_C := [("PersonSeeds", T_PS, 7), ("PersonSeeds$Rooms", T_Ro, 5), ("PersonSeeds$Doors", T_Do, 8), ("PersonSeeds$Trails", T_Tr, 3), ("PersonSeeds$Persons", T_Pe, 9), ("PersonSeedsModel", T_Mo, 23)]
end
section
theorem d_PS_init_0 : decode c_PS_init 0 = .ok (.aload_n 0, 1) := by decide +kernel
theorem d_PS_init_1 : decode c_PS_init 1 = .ok (.invokespecial 1, 3) := by decide +kernel
theorem d_PS_init_4 : decode c_PS_init 4 = .ok (.aload_n 0, 1) := by decide +kernel
theorem d_PS_init_5 : decode c_PS_init 5 = .ok (.new 7, 3) := by decide +kernel
theorem d_PS_init_8 : decode c_PS_init 8 = .ok (.dup, 1) := by decide +kernel
theorem d_PS_init_9 : decode c_PS_init 9 = .ok (.invokespecial 9, 3) := by decide +kernel
theorem d_PS_init_12 : decode c_PS_init 12 = .ok (.putfield 10, 3) := by decide +kernel
theorem d_PS_init_15 : decode c_PS_init 15 = .ok (.aload_n 0, 1) := by decide +kernel
theorem d_PS_init_16 : decode c_PS_init 16 = .ok (.new 16, 3) := by decide +kernel
theorem d_PS_init_19 : decode c_PS_init 19 = .ok (.dup, 1) := by decide +kernel
theorem d_PS_init_20 : decode c_PS_init 20 = .ok (.invokespecial 18, 3) := by decide +kernel
theorem d_PS_init_23 : decode c_PS_init 23 = .ok (.putfield 19, 3) := by decide +kernel
theorem d_PS_init_26 : decode c_PS_init 26 = .ok (.aload_n 0, 1) := by decide +kernel
theorem d_PS_init_27 : decode c_PS_init 27 = .ok (.new 23, 3) := by decide +kernel
theorem d_PS_init_30 : decode c_PS_init 30 = .ok (.dup, 1) := by decide +kernel
theorem d_PS_init_31 : decode c_PS_init 31 = .ok (.invokespecial 25, 3) := by decide +kernel
theorem d_PS_init_34 : decode c_PS_init 34 = .ok (.putfield 26, 3) := by decide +kernel
theorem d_PS_init_37 : decode c_PS_init 37 = .ok (.aload_n 0, 1) := by decide +kernel
theorem d_PS_init_38 : decode c_PS_init 38 = .ok (.new 30, 3) := by decide +kernel
theorem d_PS_init_41 : decode c_PS_init 41 = .ok (.dup, 1) := by decide +kernel
theorem d_PS_init_42 : decode c_PS_init 42 = .ok (.lload_n 1, 1) := by decide +kernel
theorem d_PS_init_43 : decode c_PS_init 43 = .ok (.invokespecial 32, 3) := by decide +kernel
theorem d_PS_init_46 : decode c_PS_init 46 = .ok (.putfield 35, 3) := by decide +kernel
theorem d_PS_init_49 : decode c_PS_init 49 = .ok (.return_, 1) := by decide +kernel
theorem d_PS_room_0 : decode c_PS_room 0 = .ok (.iload_n 1, 1) := by decide +kernel
theorem d_PS_room_1 : decode c_PS_room 1 = .ok (.iconst 1, 1) := by decide +kernel
theorem d_PS_room_2 : decode c_PS_room 2 = .ok (.bipush 100, 2) := by decide +kernel
theorem d_PS_room_4 : decode c_PS_room 4 = .ok (.invokestatic 39, 3) := by decide +kernel
theorem d_PS_room_7 : decode c_PS_room 7 = .ok (.aload_n 0, 1) := by decide +kernel
theorem d_PS_room_8 : decode c_PS_room 8 = .ok (.getfield 43, 3) := by decide +kernel
theorem d_PS_room_11 : decode c_PS_room 11 = .ok (.ifCond .ne 19, 3) := by decide +kernel
theorem d_PS_room_14 : decode c_PS_room 14 = .ok (.aload_n 0, 1) := by decide +kernel
theorem d_PS_room_15 : decode c_PS_room 15 = .ok (.getfield 10, 3) := by decide +kernel
theorem d_PS_room_18 : decode c_PS_room 18 = .ok (.getfield 47, 3) := by decide +kernel
theorem d_PS_room_21 : decode c_PS_room 21 = .ok (.bipush 12, 2) := by decide +kernel
theorem d_PS_room_23 : decode c_PS_room 23 = .ok (.if_icmp .ge 7, 3) := by decide +kernel
theorem d_PS_room_26 : decode c_PS_room 26 = .ok (.iconst 1, 1) := by decide +kernel
theorem d_PS_room_27 : decode c_PS_room 27 = .ok (.goto 4, 3) := by decide +kernel
theorem d_PS_room_30 : decode c_PS_room 30 = .ok (.iconst 0, 1) := by decide +kernel
theorem d_PS_room_31 : decode c_PS_room 31 = .ok (.invokestatic 50, 3) := by decide +kernel
theorem d_PS_room_34 : decode c_PS_room 34 = .ok (.aload_n 0, 1) := by decide +kernel
theorem d_PS_room_35 : decode c_PS_room 35 = .ok (.getfield 10, 3) := by decide +kernel
theorem d_PS_room_38 : decode c_PS_room 38 = .ok (.iload_n 1, 1) := by decide +kernel
theorem d_PS_room_39 : decode c_PS_room 39 = .ok (.invokevirtual 54, 3) := by decide +kernel
theorem d_PS_room_42 : decode c_PS_room 42 = .ok (.istore_n 2, 1) := by decide +kernel
theorem d_PS_room_43 : decode c_PS_room 43 = .ok (.aload_n 0, 1) := by decide +kernel
theorem d_PS_room_44 : decode c_PS_room 44 = .ok (.getfield 35, 3) := by decide +kernel
theorem d_PS_room_47 : decode c_PS_room 47 = .ok (.aload_n 0, 1) := by decide +kernel
theorem d_PS_room_48 : decode c_PS_room 48 = .ok (.getfield 10, 3) := by decide +kernel
theorem d_PS_room_51 : decode c_PS_room 51 = .ok (.getfield 47, 3) := by decide +kernel
theorem d_PS_room_54 : decode c_PS_room 54 = .ok (.invokevirtual 58, 3) := by decide +kernel
theorem d_PS_room_57 : decode c_PS_room 57 = .ok (.iload_n 2, 1) := by decide +kernel
theorem d_PS_room_58 : decode c_PS_room 58 = .ok (.ireturn, 1) := by decide +kernel
theorem d_PS_door_0 : decode c_PS_door 0 = .ok (.aload_n 0, 1) := by decide +kernel
theorem d_PS_door_1 : decode c_PS_door 1 = .ok (.iload_n 1, 1) := by decide +kernel
theorem d_PS_door_2 : decode c_PS_door 2 = .ok (.invokevirtual 62, 3) := by decide +kernel
theorem d_PS_door_5 : decode c_PS_door 5 = .ok (.aload_n 0, 1) := by decide +kernel
theorem d_PS_door_6 : decode c_PS_door 6 = .ok (.iload_n 2, 1) := by decide +kernel
theorem d_PS_door_7 : decode c_PS_door 7 = .ok (.invokevirtual 62, 3) := by decide +kernel
theorem d_PS_door_10 : decode c_PS_door 10 = .ok (.iload_n 3, 1) := by decide +kernel
theorem d_PS_door_11 : decode c_PS_door 11 = .ok (.iconst 1, 1) := by decide +kernel
theorem d_PS_door_12 : decode c_PS_door 12 = .ok (.bipush 20, 2) := by decide +kernel
theorem d_PS_door_14 : decode c_PS_door 14 = .ok (.invokestatic 39, 3) := by decide +kernel
theorem d_PS_door_17 : decode c_PS_door 17 = .ok (.iload_n 1, 1) := by decide +kernel
theorem d_PS_door_18 : decode c_PS_door 18 = .ok (.iload_n 2, 1) := by decide +kernel
theorem d_PS_door_19 : decode c_PS_door 19 = .ok (.invokestatic 65, 3) := by decide +kernel
theorem d_PS_door_22 : decode c_PS_door 22 = .ok (.aload_n 0, 1) := by decide +kernel
theorem d_PS_door_23 : decode c_PS_door 23 = .ok (.getfield 43, 3) := by decide +kernel
theorem d_PS_door_26 : decode c_PS_door 26 = .ok (.ifCond .ne 19, 3) := by decide +kernel
theorem d_PS_door_29 : decode c_PS_door 29 = .ok (.aload_n 0, 1) := by decide +kernel
theorem d_PS_door_30 : decode c_PS_door 30 = .ok (.getfield 19, 3) := by decide +kernel
theorem d_PS_door_33 : decode c_PS_door 33 = .ok (.getfield 69, 3) := by decide +kernel
theorem d_PS_door_36 : decode c_PS_door 36 = .ok (.bipush 16, 2) := by decide +kernel
theorem d_PS_door_38 : decode c_PS_door 38 = .ok (.if_icmp .ge 7, 3) := by decide +kernel
theorem d_PS_door_41 : decode c_PS_door 41 = .ok (.iconst 1, 1) := by decide +kernel
theorem d_PS_door_42 : decode c_PS_door 42 = .ok (.goto 4, 3) := by decide +kernel
theorem d_PS_door_45 : decode c_PS_door 45 = .ok (.iconst 0, 1) := by decide +kernel
theorem d_PS_door_46 : decode c_PS_door 46 = .ok (.invokestatic 50, 3) := by decide +kernel
theorem d_PS_door_49 : decode c_PS_door 49 = .ok (.aload_n 0, 1) := by decide +kernel
theorem d_PS_door_50 : decode c_PS_door 50 = .ok (.getfield 19, 3) := by decide +kernel
theorem d_PS_door_53 : decode c_PS_door 53 = .ok (.iload_n 1, 1) := by decide +kernel
theorem d_PS_door_54 : decode c_PS_door 54 = .ok (.iload_n 2, 1) := by decide +kernel
theorem d_PS_door_55 : decode c_PS_door 55 = .ok (.iload_n 3, 1) := by decide +kernel
theorem d_PS_door_56 : decode c_PS_door 56 = .ok (.invokevirtual 70, 3) := by decide +kernel
theorem d_PS_door_59 : decode c_PS_door 59 = .ok (.ireturn, 1) := by decide +kernel
theorem d_PS_arrives_0 : decode c_PS_arrives 0 = .ok (.iload_n 1, 1) := by decide +kernel
theorem d_PS_arrives_1 : decode c_PS_arrives 1 = .ok (.iconst 0, 1) := by decide +kernel
theorem d_PS_arrives_2 : decode c_PS_arrives 2 = .ok (.sipush 1439, 3) := by decide +kernel
theorem d_PS_arrives_5 : decode c_PS_arrives 5 = .ok (.invokestatic 39, 3) := by decide +kernel
theorem d_PS_arrives_8 : decode c_PS_arrives 8 = .ok (.iload_n 2, 1) := by decide +kernel
theorem d_PS_arrives_9 : decode c_PS_arrives 9 = .ok (.iconst 1, 1) := by decide +kernel
theorem d_PS_arrives_10 : decode c_PS_arrives 10 = .ok (.bipush 20, 2) := by decide +kernel
theorem d_PS_arrives_12 : decode c_PS_arrives 12 = .ok (.invokestatic 39, 3) := by decide +kernel
theorem d_PS_arrives_15 : decode c_PS_arrives 15 = .ok (.aload_n 0, 1) := by decide +kernel
theorem d_PS_arrives_16 : decode c_PS_arrives 16 = .ok (.getfield 43, 3) := by decide +kernel
theorem d_PS_arrives_19 : decode c_PS_arrives 19 = .ok (.ifCond .ne 31, 3) := by decide +kernel
theorem d_PS_arrives_22 : decode c_PS_arrives 22 = .ok (.aload_n 0, 1) := by decide +kernel
theorem d_PS_arrives_23 : decode c_PS_arrives 23 = .ok (.getfield 10, 3) := by decide +kernel
theorem d_PS_arrives_26 : decode c_PS_arrives 26 = .ok (.getfield 47, 3) := by decide +kernel
theorem d_PS_arrives_29 : decode c_PS_arrives 29 = .ok (.ifCond .le 21, 3) := by decide +kernel
theorem d_PS_arrives_32 : decode c_PS_arrives 32 = .ok (.aload_n 0, 1) := by decide +kernel
theorem d_PS_arrives_33 : decode c_PS_arrives 33 = .ok (.getfield 35, 3) := by decide +kernel
theorem d_PS_arrives_36 : decode c_PS_arrives 36 = .ok (.getfield 73, 3) := by decide +kernel
theorem d_PS_arrives_39 : decode c_PS_arrives 39 = .ok (.iload_n 2, 1) := by decide +kernel
theorem d_PS_arrives_40 : decode c_PS_arrives 40 = .ok (.iadd, 1) := by decide +kernel
theorem d_PS_arrives_41 : decode c_PS_arrives 41 = .ok (.bipush 60, 2) := by decide +kernel
theorem d_PS_arrives_43 : decode c_PS_arrives 43 = .ok (.if_icmp .gt 7, 3) := by decide +kernel
theorem d_PS_arrives_46 : decode c_PS_arrives 46 = .ok (.iconst 1, 1) := by decide +kernel
theorem d_PS_arrives_47 : decode c_PS_arrives 47 = .ok (.goto 4, 3) := by decide +kernel
theorem d_PS_arrives_50 : decode c_PS_arrives 50 = .ok (.iconst 0, 1) := by decide +kernel
theorem d_PS_arrives_51 : decode c_PS_arrives 51 = .ok (.invokestatic 50, 3) := by decide +kernel
theorem d_PS_arrives_54 : decode c_PS_arrives 54 = .ok (.aload_n 0, 1) := by decide +kernel
theorem d_PS_arrives_55 : decode c_PS_arrives 55 = .ok (.getfield 35, 3) := by decide +kernel
theorem d_PS_arrives_58 : decode c_PS_arrives 58 = .ok (.iload_n 1, 1) := by decide +kernel
theorem d_PS_arrives_59 : decode c_PS_arrives 59 = .ok (.iload_n 2, 1) := by decide +kernel
theorem d_PS_arrives_60 : decode c_PS_arrives 60 = .ok (.invokevirtual 74, 3) := by decide +kernel
theorem d_PS_arrives_63 : decode c_PS_arrives 63 = .ok (.aload_n 0, 1) := by decide +kernel
theorem d_PS_arrives_64 : decode c_PS_arrives 64 = .ok (.getfield 35, 3) := by decide +kernel
theorem d_PS_arrives_67 : decode c_PS_arrives 67 = .ok (.aload_n 0, 1) := by decide +kernel
theorem d_PS_arrives_68 : decode c_PS_arrives 68 = .ok (.getfield 10, 3) := by decide +kernel
theorem d_PS_arrives_71 : decode c_PS_arrives 71 = .ok (.getfield 47, 3) := by decide +kernel
theorem d_PS_arrives_74 : decode c_PS_arrives 74 = .ok (.invokevirtual 58, 3) := by decide +kernel
theorem d_PS_arrives_77 : decode c_PS_arrives 77 = .ok (.aload_n 0, 1) := by decide +kernel
theorem d_PS_arrives_78 : decode c_PS_arrives 78 = .ok (.getfield 35, 3) := by decide +kernel
theorem d_PS_arrives_81 : decode c_PS_arrives 81 = .ok (.getfield 73, 3) := by decide +kernel
theorem d_PS_arrives_84 : decode c_PS_arrives 84 = .ok (.ireturn, 1) := by decide +kernel
theorem d_PS_draw_0 : decode c_PS_draw 0 = .ok (.iload_n 1, 1) := by decide +kernel
theorem d_PS_draw_1 : decode c_PS_draw 1 = .ok (.iconst 0, 1) := by decide +kernel
theorem d_PS_draw_2 : decode c_PS_draw 2 = .ok (.bipush 59, 2) := by decide +kernel
theorem d_PS_draw_4 : decode c_PS_draw 4 = .ok (.invokestatic 39, 3) := by decide +kernel
theorem d_PS_draw_7 : decode c_PS_draw 7 = .ok (.iload_n 2, 1) := by decide +kernel
theorem d_PS_draw_8 : decode c_PS_draw 8 = .ok (.iconst 0, 1) := by decide +kernel
theorem d_PS_draw_9 : decode c_PS_draw 9 = .ok (.bipush 7, 2) := by decide +kernel
theorem d_PS_draw_11 : decode c_PS_draw 11 = .ok (.invokestatic 39, 3) := by decide +kernel
theorem d_PS_draw_14 : decode c_PS_draw 14 = .ok (.iload_n 3, 1) := by decide +kernel
theorem d_PS_draw_15 : decode c_PS_draw 15 = .ok (.iconst 1, 1) := by decide +kernel
theorem d_PS_draw_16 : decode c_PS_draw 16 = .ok (.ldc 76, 2) := by decide +kernel
theorem d_PS_draw_18 : decode c_PS_draw 18 = .ok (.invokestatic 39, 3) := by decide +kernel
theorem d_PS_draw_21 : decode c_PS_draw 21 = .ok (.aload_n 0, 1) := by decide +kernel
theorem d_PS_draw_22 : decode c_PS_draw 22 = .ok (.getfield 35, 3) := by decide +kernel
theorem d_PS_draw_25 : decode c_PS_draw 25 = .ok (.iload_n 1, 1) := by decide +kernel
theorem d_PS_draw_26 : decode c_PS_draw 26 = .ok (.iload_n 2, 1) := by decide +kernel
theorem d_PS_draw_27 : decode c_PS_draw 27 = .ok (.iload_n 3, 1) := by decide +kernel
theorem d_PS_draw_28 : decode c_PS_draw 28 = .ok (.invokevirtual 77, 3) := by decide +kernel
theorem d_PS_draw_31 : decode c_PS_draw 31 = .ok (.ireturn, 1) := by decide +kernel
theorem d_PS_run_0 : decode c_PS_run 0 = .ok (.iload_n 1, 1) := by decide +kernel
theorem d_PS_run_1 : decode c_PS_run 1 = .ok (.iconst 1, 1) := by decide +kernel
theorem d_PS_run_2 : decode c_PS_run 2 = .ok (.sipush 500, 3) := by decide +kernel
theorem d_PS_run_5 : decode c_PS_run 5 = .ok (.invokestatic 39, 3) := by decide +kernel
theorem d_PS_run_8 : decode c_PS_run 8 = .ok (.aload_n 0, 1) := by decide +kernel
theorem d_PS_run_9 : decode c_PS_run 9 = .ok (.getfield 10, 3) := by decide +kernel
theorem d_PS_run_12 : decode c_PS_run 12 = .ok (.getfield 47, 3) := by decide +kernel
theorem d_PS_run_15 : decode c_PS_run 15 = .ok (.ifCond .le 19, 3) := by decide +kernel
theorem d_PS_run_18 : decode c_PS_run 18 = .ok (.aload_n 0, 1) := by decide +kernel
theorem d_PS_run_19 : decode c_PS_run 19 = .ok (.getfield 43, 3) := by decide +kernel
theorem d_PS_run_22 : decode c_PS_run 22 = .ok (.iload_n 1, 1) := by decide +kernel
theorem d_PS_run_23 : decode c_PS_run 23 = .ok (.iadd, 1) := by decide +kernel
theorem d_PS_run_24 : decode c_PS_run 24 = .ok (.sipush 2000, 3) := by decide +kernel
theorem d_PS_run_27 : decode c_PS_run 27 = .ok (.if_icmp .gt 7, 3) := by decide +kernel
theorem d_PS_run_30 : decode c_PS_run 30 = .ok (.iconst 1, 1) := by decide +kernel
theorem d_PS_run_31 : decode c_PS_run 31 = .ok (.goto 4, 3) := by decide +kernel
theorem d_PS_run_34 : decode c_PS_run 34 = .ok (.iconst 0, 1) := by decide +kernel
theorem d_PS_run_35 : decode c_PS_run 35 = .ok (.invokestatic 50, 3) := by decide +kernel
theorem d_PS_run_38 : decode c_PS_run 38 = .ok (.iconst 0, 1) := by decide +kernel
theorem d_PS_run_39 : decode c_PS_run 39 = .ok (.istore_n 2, 1) := by decide +kernel
theorem d_PS_run_40 : decode c_PS_run 40 = .ok (.iload_n 2, 1) := by decide +kernel
theorem d_PS_run_41 : decode c_PS_run 41 = .ok (.iload_n 1, 1) := by decide +kernel
theorem d_PS_run_42 : decode c_PS_run 42 = .ok (.if_icmp .ge 13, 3) := by decide +kernel
theorem d_PS_run_45 : decode c_PS_run 45 = .ok (.aload_n 0, 1) := by decide +kernel
theorem d_PS_run_46 : decode c_PS_run 46 = .ok (.invokevirtual 80, 3) := by decide +kernel
theorem d_PS_run_49 : decode c_PS_run 49 = .ok (.iinc 2 1, 3) := by decide +kernel
theorem d_PS_run_52 : decode c_PS_run 52 = .ok (.goto (-12), 3) := by decide +kernel
theorem d_PS_run_55 : decode c_PS_run 55 = .ok (.aload_n 0, 1) := by decide +kernel
theorem d_PS_run_56 : decode c_PS_run 56 = .ok (.getfield 83, 3) := by decide +kernel
theorem d_PS_run_59 : decode c_PS_run 59 = .ok (.aload_n 0, 1) := by decide +kernel
theorem d_PS_run_60 : decode c_PS_run 60 = .ok (.getfield 86, 3) := by decide +kernel
theorem d_PS_run_63 : decode c_PS_run 63 = .ok (.isub, 1) := by decide +kernel
theorem d_PS_run_64 : decode c_PS_run 64 = .ok (.ireturn, 1) := by decide +kernel
theorem d_PS_person_0 : decode c_PS_person 0 = .ok (.aload_n 0, 1) := by decide +kernel
theorem d_PS_person_1 : decode c_PS_person 1 = .ok (.iload_n 1, 1) := by decide +kernel
theorem d_PS_person_2 : decode c_PS_person 2 = .ok (.invokevirtual 89, 3) := by decide +kernel
theorem d_PS_person_5 : decode c_PS_person 5 = .ok (.iload_n 2, 1) := by decide +kernel
theorem d_PS_person_6 : decode c_PS_person 6 = .ok (.iconst 0, 1) := by decide +kernel
theorem d_PS_person_7 : decode c_PS_person 7 = .ok (.iconst 5, 1) := by decide +kernel
theorem d_PS_person_8 : decode c_PS_person 8 = .ok (.invokestatic 39, 3) := by decide +kernel
theorem d_PS_person_11 : decode c_PS_person 11 = .ok (.iload_n 2, 1) := by decide +kernel
theorem d_PS_person_12 : decode c_PS_person 12 = .ok (.tableswitch 86 0 4 #[36, 46, 56, 66, 76], 36) := by decide +kernel
theorem d_PS_person_48 : decode c_PS_person 48 = .ok (.aload_n 0, 1) := by decide +kernel
theorem d_PS_person_49 : decode c_PS_person 49 = .ok (.getfield 35, 3) := by decide +kernel
theorem d_PS_person_52 : decode c_PS_person 52 = .ok (.getfield 92, 3) := by decide +kernel
theorem d_PS_person_55 : decode c_PS_person 55 = .ok (.iload_n 1, 1) := by decide +kernel
theorem d_PS_person_56 : decode c_PS_person 56 = .ok (.iaload, 1) := by decide +kernel
theorem d_PS_person_57 : decode c_PS_person 57 = .ok (.ireturn, 1) := by decide +kernel
theorem d_PS_person_58 : decode c_PS_person 58 = .ok (.aload_n 0, 1) := by decide +kernel
theorem d_PS_person_59 : decode c_PS_person 59 = .ok (.getfield 35, 3) := by decide +kernel
theorem d_PS_person_62 : decode c_PS_person 62 = .ok (.getfield 96, 3) := by decide +kernel
theorem d_PS_person_65 : decode c_PS_person 65 = .ok (.iload_n 1, 1) := by decide +kernel
theorem d_PS_person_66 : decode c_PS_person 66 = .ok (.iaload, 1) := by decide +kernel
theorem d_PS_person_67 : decode c_PS_person 67 = .ok (.ireturn, 1) := by decide +kernel
theorem d_PS_person_68 : decode c_PS_person 68 = .ok (.aload_n 0, 1) := by decide +kernel
theorem d_PS_person_69 : decode c_PS_person 69 = .ok (.getfield 35, 3) := by decide +kernel
theorem d_PS_person_72 : decode c_PS_person 72 = .ok (.getfield 99, 3) := by decide +kernel
theorem d_PS_person_75 : decode c_PS_person 75 = .ok (.iload_n 1, 1) := by decide +kernel
theorem d_PS_person_76 : decode c_PS_person 76 = .ok (.iaload, 1) := by decide +kernel
theorem d_PS_person_77 : decode c_PS_person 77 = .ok (.ireturn, 1) := by decide +kernel
theorem d_PS_person_78 : decode c_PS_person 78 = .ok (.aload_n 0, 1) := by decide +kernel
theorem d_PS_person_79 : decode c_PS_person 79 = .ok (.getfield 35, 3) := by decide +kernel
theorem d_PS_person_82 : decode c_PS_person 82 = .ok (.getfield 102, 3) := by decide +kernel
theorem d_PS_person_85 : decode c_PS_person 85 = .ok (.iload_n 1, 1) := by decide +kernel
theorem d_PS_person_86 : decode c_PS_person 86 = .ok (.iaload, 1) := by decide +kernel
theorem d_PS_person_87 : decode c_PS_person 87 = .ok (.ireturn, 1) := by decide +kernel
theorem d_PS_person_88 : decode c_PS_person 88 = .ok (.aload_n 0, 1) := by decide +kernel
theorem d_PS_person_89 : decode c_PS_person 89 = .ok (.getfield 35, 3) := by decide +kernel
theorem d_PS_person_92 : decode c_PS_person 92 = .ok (.getfield 105, 3) := by decide +kernel
theorem d_PS_person_95 : decode c_PS_person 95 = .ok (.iload_n 1, 1) := by decide +kernel
theorem d_PS_person_96 : decode c_PS_person 96 = .ok (.iaload, 1) := by decide +kernel
theorem d_PS_person_97 : decode c_PS_person 97 = .ok (.ireturn, 1) := by decide +kernel
theorem d_PS_person_98 : decode c_PS_person 98 = .ok (.aload_n 0, 1) := by decide +kernel
theorem d_PS_person_99 : decode c_PS_person 99 = .ok (.getfield 35, 3) := by decide +kernel
theorem d_PS_person_102 : decode c_PS_person 102 = .ok (.getfield 108, 3) := by decide +kernel
theorem d_PS_person_105 : decode c_PS_person 105 = .ok (.iload_n 1, 1) := by decide +kernel
theorem d_PS_person_106 : decode c_PS_person 106 = .ok (.iaload, 1) := by decide +kernel
theorem d_PS_person_107 : decode c_PS_person 107 = .ok (.ireturn, 1) := by decide +kernel
theorem d_PS_at_0 : decode c_PS_at 0 = .ok (.aload_n 0, 1) := by decide +kernel
theorem d_PS_at_1 : decode c_PS_at 1 = .ok (.iload_n 1, 1) := by decide +kernel
theorem d_PS_at_2 : decode c_PS_at 2 = .ok (.invokevirtual 89, 3) := by decide +kernel
theorem d_PS_at_5 : decode c_PS_at 5 = .ok (.aload_n 0, 1) := by decide +kernel
theorem d_PS_at_6 : decode c_PS_at 6 = .ok (.getfield 26, 3) := by decide +kernel
theorem d_PS_at_9 : decode c_PS_at 9 = .ok (.iload_n 1, 1) := by decide +kernel
theorem d_PS_at_10 : decode c_PS_at 10 = .ok (.invokevirtual 111, 3) := by decide +kernel
theorem d_PS_at_13 : decode c_PS_at 13 = .ok (.ireturn, 1) := by decide +kernel
theorem d_PS_was_0 : decode c_PS_was 0 = .ok (.aload_n 0, 1) := by decide +kernel
theorem d_PS_was_1 : decode c_PS_was 1 = .ok (.iload_n 1, 1) := by decide +kernel
theorem d_PS_was_2 : decode c_PS_was 2 = .ok (.invokevirtual 89, 3) := by decide +kernel
theorem d_PS_was_5 : decode c_PS_was 5 = .ok (.aload_n 0, 1) := by decide +kernel
theorem d_PS_was_6 : decode c_PS_was 6 = .ok (.iload_n 2, 1) := by decide +kernel
theorem d_PS_was_7 : decode c_PS_was 7 = .ok (.invokevirtual 114, 3) := by decide +kernel
theorem d_PS_was_10 : decode c_PS_was 10 = .ok (.aload_n 0, 1) := by decide +kernel
theorem d_PS_was_11 : decode c_PS_was 11 = .ok (.getfield 26, 3) := by decide +kernel
theorem d_PS_was_14 : decode c_PS_was 14 = .ok (.iload_n 1, 1) := by decide +kernel
theorem d_PS_was_15 : decode c_PS_was 15 = .ok (.iload_n 2, 1) := by decide +kernel
theorem d_PS_was_16 : decode c_PS_was 16 = .ok (.invokevirtual 117, 3) := by decide +kernel
theorem d_PS_was_19 : decode c_PS_was 19 = .ok (.ireturn, 1) := by decide +kernel
theorem d_PS_waited_0 : decode c_PS_waited 0 = .ok (.aload_n 0, 1) := by decide +kernel
theorem d_PS_waited_1 : decode c_PS_waited 1 = .ok (.iload_n 1, 1) := by decide +kernel
theorem d_PS_waited_2 : decode c_PS_waited 2 = .ok (.invokevirtual 89, 3) := by decide +kernel
theorem d_PS_waited_5 : decode c_PS_waited 5 = .ok (.aload_n 0, 1) := by decide +kernel
theorem d_PS_waited_6 : decode c_PS_waited 6 = .ok (.getfield 35, 3) := by decide +kernel
theorem d_PS_waited_9 : decode c_PS_waited 9 = .ok (.getfield 121, 3) := by decide +kernel
theorem d_PS_waited_12 : decode c_PS_waited 12 = .ok (.iload_n 1, 1) := by decide +kernel
theorem d_PS_waited_13 : decode c_PS_waited 13 = .ok (.iaload, 1) := by decide +kernel
theorem d_PS_waited_14 : decode c_PS_waited 14 = .ok (.ireturn, 1) := by decide +kernel
theorem d_PS_in_0 : decode c_PS_in 0 = .ok (.aload_n 0, 1) := by decide +kernel
theorem d_PS_in_1 : decode c_PS_in 1 = .ok (.iload_n 1, 1) := by decide +kernel
theorem d_PS_in_2 : decode c_PS_in 2 = .ok (.invokevirtual 62, 3) := by decide +kernel
theorem d_PS_in_5 : decode c_PS_in 5 = .ok (.iload_n 2, 1) := by decide +kernel
theorem d_PS_in_6 : decode c_PS_in 6 = .ok (.iconst 0, 1) := by decide +kernel
theorem d_PS_in_7 : decode c_PS_in 7 = .ok (.iconst 2, 1) := by decide +kernel
theorem d_PS_in_8 : decode c_PS_in 8 = .ok (.invokestatic 39, 3) := by decide +kernel
theorem d_PS_in_11 : decode c_PS_in 11 = .ok (.iload_n 2, 1) := by decide +kernel
theorem d_PS_in_12 : decode c_PS_in 12 = .ok (.lookupswitch 48 #[(0, 28), (1, 38)], 28) := by decide +kernel
theorem d_PS_in_40 : decode c_PS_in 40 = .ok (.aload_n 0, 1) := by decide +kernel
theorem d_PS_in_41 : decode c_PS_in 41 = .ok (.getfield 10, 3) := by decide +kernel
theorem d_PS_in_44 : decode c_PS_in 44 = .ok (.getfield 124, 3) := by decide +kernel
theorem d_PS_in_47 : decode c_PS_in 47 = .ok (.iload_n 1, 1) := by decide +kernel
theorem d_PS_in_48 : decode c_PS_in 48 = .ok (.iaload, 1) := by decide +kernel
theorem d_PS_in_49 : decode c_PS_in 49 = .ok (.ireturn, 1) := by decide +kernel
theorem d_PS_in_50 : decode c_PS_in 50 = .ok (.aload_n 0, 1) := by decide +kernel
theorem d_PS_in_51 : decode c_PS_in 51 = .ok (.getfield 10, 3) := by decide +kernel
theorem d_PS_in_54 : decode c_PS_in 54 = .ok (.getfield 127, 3) := by decide +kernel
theorem d_PS_in_57 : decode c_PS_in 57 = .ok (.iload_n 1, 1) := by decide +kernel
theorem d_PS_in_58 : decode c_PS_in 58 = .ok (.iaload, 1) := by decide +kernel
theorem d_PS_in_59 : decode c_PS_in 59 = .ok (.ireturn, 1) := by decide +kernel
theorem d_PS_in_60 : decode c_PS_in 60 = .ok (.aload_n 0, 1) := by decide +kernel
theorem d_PS_in_61 : decode c_PS_in 61 = .ok (.getfield 10, 3) := by decide +kernel
theorem d_PS_in_64 : decode c_PS_in 64 = .ok (.getfield 130, 3) := by decide +kernel
theorem d_PS_in_67 : decode c_PS_in 67 = .ok (.iload_n 1, 1) := by decide +kernel
theorem d_PS_in_68 : decode c_PS_in 68 = .ok (.iaload, 1) := by decide +kernel
theorem d_PS_in_69 : decode c_PS_in 69 = .ok (.ireturn, 1) := by decide +kernel
theorem d_PS_inThen_0 : decode c_PS_inThen 0 = .ok (.aload_n 0, 1) := by decide +kernel
theorem d_PS_inThen_1 : decode c_PS_inThen 1 = .ok (.iload_n 1, 1) := by decide +kernel
theorem d_PS_inThen_2 : decode c_PS_inThen 2 = .ok (.invokevirtual 62, 3) := by decide +kernel
theorem d_PS_inThen_5 : decode c_PS_inThen 5 = .ok (.aload_n 0, 1) := by decide +kernel
theorem d_PS_inThen_6 : decode c_PS_inThen 6 = .ok (.iload_n 2, 1) := by decide +kernel
theorem d_PS_inThen_7 : decode c_PS_inThen 7 = .ok (.invokevirtual 114, 3) := by decide +kernel
theorem d_PS_inThen_10 : decode c_PS_inThen 10 = .ok (.iconst 0, 1) := by decide +kernel
theorem d_PS_inThen_11 : decode c_PS_inThen 11 = .ok (.istore_n 3, 1) := by decide +kernel
theorem d_PS_inThen_12 : decode c_PS_inThen 12 = .ok (.iconst 0, 1) := by decide +kernel
theorem d_PS_inThen_13 : decode c_PS_inThen 13 = .ok (.istore 4, 2) := by decide +kernel
theorem d_PS_inThen_15 : decode c_PS_inThen 15 = .ok (.iload 4, 2) := by decide +kernel
theorem d_PS_inThen_17 : decode c_PS_inThen 17 = .ok (.aload_n 0, 1) := by decide +kernel
theorem d_PS_inThen_18 : decode c_PS_inThen 18 = .ok (.getfield 35, 3) := by decide +kernel
theorem d_PS_inThen_21 : decode c_PS_inThen 21 = .ok (.getfield 73, 3) := by decide +kernel
theorem d_PS_inThen_24 : decode c_PS_inThen 24 = .ok (.if_icmp .ge 26, 3) := by decide +kernel
theorem d_PS_inThen_27 : decode c_PS_inThen 27 = .ok (.aload_n 0, 1) := by decide +kernel
theorem d_PS_inThen_28 : decode c_PS_inThen 28 = .ok (.getfield 26, 3) := by decide +kernel
theorem d_PS_inThen_31 : decode c_PS_inThen 31 = .ok (.iload 4, 2) := by decide +kernel
theorem d_PS_inThen_33 : decode c_PS_inThen 33 = .ok (.iload_n 2, 1) := by decide +kernel
theorem d_PS_inThen_34 : decode c_PS_inThen 34 = .ok (.invokevirtual 117, 3) := by decide +kernel
theorem d_PS_inThen_37 : decode c_PS_inThen 37 = .ok (.iload_n 1, 1) := by decide +kernel
theorem d_PS_inThen_38 : decode c_PS_inThen 38 = .ok (.if_icmp .ne 6, 3) := by decide +kernel
theorem d_PS_inThen_41 : decode c_PS_inThen 41 = .ok (.iinc 3 1, 3) := by decide +kernel
theorem d_PS_inThen_44 : decode c_PS_inThen 44 = .ok (.iinc 4 1, 3) := by decide +kernel
theorem d_PS_inThen_47 : decode c_PS_inThen 47 = .ok (.goto (-32), 3) := by decide +kernel
theorem d_PS_inThen_50 : decode c_PS_inThen 50 = .ok (.iload_n 3, 1) := by decide +kernel
theorem d_PS_inThen_51 : decode c_PS_inThen 51 = .ok (.ireturn, 1) := by decide +kernel
theorem d_PS_through_0 : decode c_PS_through 0 = .ok (.iload_n 1, 1) := by decide +kernel
theorem d_PS_through_1 : decode c_PS_through 1 = .ok (.iconst 0, 1) := by decide +kernel
theorem d_PS_through_2 : decode c_PS_through 2 = .ok (.aload_n 0, 1) := by decide +kernel
theorem d_PS_through_3 : decode c_PS_through 3 = .ok (.getfield 19, 3) := by decide +kernel
theorem d_PS_through_6 : decode c_PS_through 6 = .ok (.getfield 69, 3) := by decide +kernel
theorem d_PS_through_9 : decode c_PS_through 9 = .ok (.iconst 1, 1) := by decide +kernel
theorem d_PS_through_10 : decode c_PS_through 10 = .ok (.isub, 1) := by decide +kernel
theorem d_PS_through_11 : decode c_PS_through 11 = .ok (.invokestatic 39, 3) := by decide +kernel
theorem d_PS_through_14 : decode c_PS_through 14 = .ok (.iload_n 2, 1) := by decide +kernel
theorem d_PS_through_15 : decode c_PS_through 15 = .ok (.ifCond .eq 15, 3) := by decide +kernel
theorem d_PS_through_18 : decode c_PS_through 18 = .ok (.aload_n 0, 1) := by decide +kernel
theorem d_PS_through_19 : decode c_PS_through 19 = .ok (.getfield 19, 3) := by decide +kernel
theorem d_PS_through_22 : decode c_PS_through 22 = .ok (.getfield 133, 3) := by decide +kernel
theorem d_PS_through_25 : decode c_PS_through 25 = .ok (.iload_n 1, 1) := by decide +kernel
theorem d_PS_through_26 : decode c_PS_through 26 = .ok (.iaload, 1) := by decide +kernel
theorem d_PS_through_27 : decode c_PS_through 27 = .ok (.goto 12, 3) := by decide +kernel
theorem d_PS_through_30 : decode c_PS_through 30 = .ok (.aload_n 0, 1) := by decide +kernel
theorem d_PS_through_31 : decode c_PS_through 31 = .ok (.getfield 19, 3) := by decide +kernel
theorem d_PS_through_34 : decode c_PS_through 34 = .ok (.getfield 136, 3) := by decide +kernel
theorem d_PS_through_37 : decode c_PS_through 37 = .ok (.iload_n 1, 1) := by decide +kernel
theorem d_PS_through_38 : decode c_PS_through 38 = .ok (.iaload, 1) := by decide +kernel
theorem d_PS_through_39 : decode c_PS_through 39 = .ok (.ireturn, 1) := by decide +kernel
theorem d_PS_distance_0 : decode c_PS_distance 0 = .ok (.aload_n 0, 1) := by decide +kernel
theorem d_PS_distance_1 : decode c_PS_distance 1 = .ok (.iload_n 1, 1) := by decide +kernel
theorem d_PS_distance_2 : decode c_PS_distance 2 = .ok (.invokevirtual 62, 3) := by decide +kernel
theorem d_PS_distance_5 : decode c_PS_distance 5 = .ok (.aload_n 0, 1) := by decide +kernel
theorem d_PS_distance_6 : decode c_PS_distance 6 = .ok (.iload_n 2, 1) := by decide +kernel
theorem d_PS_distance_7 : decode c_PS_distance 7 = .ok (.invokevirtual 62, 3) := by decide +kernel
theorem d_PS_distance_10 : decode c_PS_distance 10 = .ok (.aload_n 0, 1) := by decide +kernel
theorem d_PS_distance_11 : decode c_PS_distance 11 = .ok (.getfield 19, 3) := by decide +kernel
theorem d_PS_distance_14 : decode c_PS_distance 14 = .ok (.iload_n 1, 1) := by decide +kernel
theorem d_PS_distance_15 : decode c_PS_distance 15 = .ok (.iload_n 2, 1) := by decide +kernel
theorem d_PS_distance_16 : decode c_PS_distance 16 = .ok (.invokevirtual 139, 3) := by decide +kernel
theorem d_PS_distance_19 : decode c_PS_distance 19 = .ok (.istore_n 3, 1) := by decide +kernel
theorem d_PS_distance_20 : decode c_PS_distance 20 = .ok (.iload_n 3, 1) := by decide +kernel
theorem d_PS_distance_21 : decode c_PS_distance 21 = .ok (.sipush 1000, 3) := by decide +kernel
theorem d_PS_distance_24 : decode c_PS_distance 24 = .ok (.if_icmp .ge 7, 3) := by decide +kernel
theorem d_PS_distance_27 : decode c_PS_distance 27 = .ok (.iload_n 3, 1) := by decide +kernel
theorem d_PS_distance_28 : decode c_PS_distance 28 = .ok (.goto 4, 3) := by decide +kernel
theorem d_PS_distance_31 : decode c_PS_distance 31 = .ok (.iconst (-1), 1) := by decide +kernel
theorem d_PS_distance_32 : decode c_PS_distance 32 = .ok (.ireturn, 1) := by decide +kernel
theorem d_PS_met_0 : decode c_PS_met 0 = .ok (.aload_n 0, 1) := by decide +kernel
theorem d_PS_met_1 : decode c_PS_met 1 = .ok (.iload_n 1, 1) := by decide +kernel
theorem d_PS_met_2 : decode c_PS_met 2 = .ok (.invokevirtual 89, 3) := by decide +kernel
theorem d_PS_met_5 : decode c_PS_met 5 = .ok (.aload_n 0, 1) := by decide +kernel
theorem d_PS_met_6 : decode c_PS_met 6 = .ok (.iload_n 2, 1) := by decide +kernel
theorem d_PS_met_7 : decode c_PS_met 7 = .ok (.invokevirtual 89, 3) := by decide +kernel
theorem d_PS_met_10 : decode c_PS_met 10 = .ok (.iload_n 1, 1) := by decide +kernel
theorem d_PS_met_11 : decode c_PS_met 11 = .ok (.iload_n 2, 1) := by decide +kernel
theorem d_PS_met_12 : decode c_PS_met 12 = .ok (.invokestatic 65, 3) := by decide +kernel
theorem d_PS_met_15 : decode c_PS_met 15 = .ok (.aload_n 0, 1) := by decide +kernel
theorem d_PS_met_16 : decode c_PS_met 16 = .ok (.getfield 26, 3) := by decide +kernel
theorem d_PS_met_19 : decode c_PS_met 19 = .ok (.iload_n 1, 1) := by decide +kernel
theorem d_PS_met_20 : decode c_PS_met 20 = .ok (.iload_n 2, 1) := by decide +kernel
theorem d_PS_met_21 : decode c_PS_met 21 = .ok (.invokevirtual 142, 3) := by decide +kernel
theorem d_PS_met_24 : decode c_PS_met 24 = .ok (.istore_n 3, 1) := by decide +kernel
theorem d_PS_met_25 : decode c_PS_met 25 = .ok (.aload_n 0, 1) := by decide +kernel
theorem d_PS_met_26 : decode c_PS_met 26 = .ok (.getfield 26, 3) := by decide +kernel
theorem d_PS_met_29 : decode c_PS_met 29 = .ok (.iload_n 2, 1) := by decide +kernel
theorem d_PS_met_30 : decode c_PS_met 30 = .ok (.iload_n 1, 1) := by decide +kernel
theorem d_PS_met_31 : decode c_PS_met 31 = .ok (.invokevirtual 142, 3) := by decide +kernel
theorem d_PS_met_34 : decode c_PS_met 34 = .ok (.istore 4, 2) := by decide +kernel
theorem d_PS_met_36 : decode c_PS_met 36 = .ok (.iload_n 3, 1) := by decide +kernel
theorem d_PS_met_37 : decode c_PS_met 37 = .ok (.iconst (-1), 1) := by decide +kernel
theorem d_PS_met_38 : decode c_PS_met 38 = .ok (.if_icmp .eq 9, 3) := by decide +kernel
theorem d_PS_met_41 : decode c_PS_met 41 = .ok (.iload 4, 2) := by decide +kernel
theorem d_PS_met_43 : decode c_PS_met 43 = .ok (.iconst (-1), 1) := by decide +kernel
theorem d_PS_met_44 : decode c_PS_met 44 = .ok (.if_icmp .ne 10, 3) := by decide +kernel
theorem d_PS_met_47 : decode c_PS_met 47 = .ok (.iload_n 3, 1) := by decide +kernel
theorem d_PS_met_48 : decode c_PS_met 48 = .ok (.iload 4, 2) := by decide +kernel
theorem d_PS_met_50 : decode c_PS_met 50 = .ok (.invokestatic 145, 3) := by decide +kernel
theorem d_PS_met_53 : decode c_PS_met 53 = .ok (.ireturn, 1) := by decide +kernel
theorem d_PS_met_54 : decode c_PS_met 54 = .ok (.iload_n 3, 1) := by decide +kernel
theorem d_PS_met_55 : decode c_PS_met 55 = .ok (.iload 4, 2) := by decide +kernel
theorem d_PS_met_57 : decode c_PS_met 57 = .ok (.invokestatic 150, 3) := by decide +kernel
theorem d_PS_met_60 : decode c_PS_met 60 = .ok (.ireturn, 1) := by decide +kernel
theorem d_PS_entered_0 : decode c_PS_entered 0 = .ok (.iload_n 1, 1) := by decide +kernel
theorem d_PS_entered_1 : decode c_PS_entered 1 = .ok (.ifCond .eq 10, 3) := by decide +kernel
theorem d_PS_entered_4 : decode c_PS_entered 4 = .ok (.aload_n 0, 1) := by decide +kernel
theorem d_PS_entered_5 : decode c_PS_entered 5 = .ok (.getfield 83, 3) := by decide +kernel
theorem d_PS_entered_8 : decode c_PS_entered 8 = .ok (.goto 7, 3) := by decide +kernel
theorem d_PS_entered_11 : decode c_PS_entered 11 = .ok (.aload_n 0, 1) := by decide +kernel
theorem d_PS_entered_12 : decode c_PS_entered 12 = .ok (.getfield 86, 3) := by decide +kernel
theorem d_PS_entered_15 : decode c_PS_entered 15 = .ok (.ireturn, 1) := by decide +kernel
theorem d_PS_checkRoom_0 : decode c_PS_checkRoom 0 = .ok (.iload_n 1, 1) := by decide +kernel
theorem d_PS_checkRoom_1 : decode c_PS_checkRoom 1 = .ok (.iconst 0, 1) := by decide +kernel
theorem d_PS_checkRoom_2 : decode c_PS_checkRoom 2 = .ok (.aload_n 0, 1) := by decide +kernel
theorem d_PS_checkRoom_3 : decode c_PS_checkRoom 3 = .ok (.getfield 10, 3) := by decide +kernel
theorem d_PS_checkRoom_6 : decode c_PS_checkRoom 6 = .ok (.getfield 47, 3) := by decide +kernel
theorem d_PS_checkRoom_9 : decode c_PS_checkRoom 9 = .ok (.iconst 1, 1) := by decide +kernel
theorem d_PS_checkRoom_10 : decode c_PS_checkRoom 10 = .ok (.isub, 1) := by decide +kernel
theorem d_PS_checkRoom_11 : decode c_PS_checkRoom 11 = .ok (.invokestatic 39, 3) := by decide +kernel
theorem d_PS_checkRoom_14 : decode c_PS_checkRoom 14 = .ok (.return_, 1) := by decide +kernel
theorem d_PS_checkPerson_0 : decode c_PS_checkPerson 0 = .ok (.iload_n 1, 1) := by decide +kernel
end
section
theorem d_PS_checkPerson_1 : decode c_PS_checkPerson 1 = .ok (.iconst 0, 1) := by decide +kernel
theorem d_PS_checkPerson_2 : decode c_PS_checkPerson 2 = .ok (.aload_n 0, 1) := by decide +kernel
theorem d_PS_checkPerson_3 : decode c_PS_checkPerson 3 = .ok (.getfield 35, 3) := by decide +kernel
theorem d_PS_checkPerson_6 : decode c_PS_checkPerson 6 = .ok (.getfield 73, 3) := by decide +kernel
theorem d_PS_checkPerson_9 : decode c_PS_checkPerson 9 = .ok (.iconst 1, 1) := by decide +kernel
theorem d_PS_checkPerson_10 : decode c_PS_checkPerson 10 = .ok (.isub, 1) := by decide +kernel
theorem d_PS_checkPerson_11 : decode c_PS_checkPerson 11 = .ok (.invokestatic 39, 3) := by decide +kernel
theorem d_PS_checkPerson_14 : decode c_PS_checkPerson 14 = .ok (.return_, 1) := by decide +kernel
theorem d_PS_checkOver_0 : decode c_PS_checkOver 0 = .ok (.iload_n 1, 1) := by decide +kernel
theorem d_PS_checkOver_1 : decode c_PS_checkOver 1 = .ok (.iconst 0, 1) := by decide +kernel
theorem d_PS_checkOver_2 : decode c_PS_checkOver 2 = .ok (.aload_n 0, 1) := by decide +kernel
theorem d_PS_checkOver_3 : decode c_PS_checkOver 3 = .ok (.getfield 43, 3) := by decide +kernel
theorem d_PS_checkOver_6 : decode c_PS_checkOver 6 = .ok (.iconst 1, 1) := by decide +kernel
theorem d_PS_checkOver_7 : decode c_PS_checkOver 7 = .ok (.isub, 1) := by decide +kernel
theorem d_PS_checkOver_8 : decode c_PS_checkOver 8 = .ok (.invokestatic 39, 3) := by decide +kernel
theorem d_PS_checkOver_11 : decode c_PS_checkOver 11 = .ok (.return_, 1) := by decide +kernel
theorem d_PS_checkBounds_0 : decode c_PS_checkBounds 0 = .ok (.iload_n 0, 1) := by decide +kernel
theorem d_PS_checkBounds_1 : decode c_PS_checkBounds 1 = .ok (.iload_n 1, 1) := by decide +kernel
theorem d_PS_checkBounds_2 : decode c_PS_checkBounds 2 = .ok (.if_icmp .lt 8, 3) := by decide +kernel
theorem d_PS_checkBounds_5 : decode c_PS_checkBounds 5 = .ok (.iload_n 0, 1) := by decide +kernel
theorem d_PS_checkBounds_6 : decode c_PS_checkBounds 6 = .ok (.iload_n 2, 1) := by decide +kernel
theorem d_PS_checkBounds_7 : decode c_PS_checkBounds 7 = .ok (.if_icmp .le 13, 3) := by decide +kernel
theorem d_PS_checkBounds_10 : decode c_PS_checkBounds 10 = .ok (.new 153, 3) := by decide +kernel
theorem d_PS_checkBounds_13 : decode c_PS_checkBounds 13 = .ok (.dup, 1) := by decide +kernel
theorem d_PS_checkBounds_14 : decode c_PS_checkBounds 14 = .ok (.ldc 155, 2) := by decide +kernel
theorem d_PS_checkBounds_16 : decode c_PS_checkBounds 16 = .ok (.invokespecial 157, 3) := by decide +kernel
theorem d_PS_checkBounds_19 : decode c_PS_checkBounds 19 = .ok (.athrow, 1) := by decide +kernel
theorem d_PS_checkBounds_20 : decode c_PS_checkBounds 20 = .ok (.return_, 1) := by decide +kernel
theorem d_PS_checkDifferent_0 : decode c_PS_checkDifferent 0 = .ok (.iload_n 0, 1) := by decide +kernel
theorem d_PS_checkDifferent_1 : decode c_PS_checkDifferent 1 = .ok (.iload_n 1, 1) := by decide +kernel
theorem d_PS_checkDifferent_2 : decode c_PS_checkDifferent 2 = .ok (.if_icmp .ne 13, 3) := by decide +kernel
theorem d_PS_checkDifferent_5 : decode c_PS_checkDifferent 5 = .ok (.new 153, 3) := by decide +kernel
theorem d_PS_checkDifferent_8 : decode c_PS_checkDifferent 8 = .ok (.dup, 1) := by decide +kernel
theorem d_PS_checkDifferent_9 : decode c_PS_checkDifferent 9 = .ok (.ldc 160, 2) := by decide +kernel
theorem d_PS_checkDifferent_11 : decode c_PS_checkDifferent 11 = .ok (.invokespecial 157, 3) := by decide +kernel
theorem d_PS_checkDifferent_14 : decode c_PS_checkDifferent 14 = .ok (.athrow, 1) := by decide +kernel
theorem d_PS_checkDifferent_15 : decode c_PS_checkDifferent 15 = .ok (.return_, 1) := by decide +kernel
theorem d_PS_checkState_0 : decode c_PS_checkState 0 = .ok (.iload_n 0, 1) := by decide +kernel
theorem d_PS_checkState_1 : decode c_PS_checkState 1 = .ok (.ifCond .ne 13, 3) := by decide +kernel
theorem d_PS_checkState_4 : decode c_PS_checkState 4 = .ok (.new 162, 3) := by decide +kernel
theorem d_PS_checkState_7 : decode c_PS_checkState 7 = .ok (.dup, 1) := by decide +kernel
theorem d_PS_checkState_8 : decode c_PS_checkState 8 = .ok (.ldc 164, 2) := by decide +kernel
theorem d_PS_checkState_10 : decode c_PS_checkState 10 = .ok (.invokespecial 166, 3) := by decide +kernel
theorem d_PS_checkState_13 : decode c_PS_checkState 13 = .ok (.athrow, 1) := by decide +kernel
theorem d_PS_checkState_14 : decode c_PS_checkState 14 = .ok (.return_, 1) := by decide +kernel
theorem d_PS_passMinute_0 : decode c_PS_passMinute 0 = .ok (.aload_n 0, 1) := by decide +kernel
theorem d_PS_passMinute_1 : decode c_PS_passMinute 1 = .ok (.getfield 19, 3) := by decide +kernel
theorem d_PS_passMinute_4 : decode c_PS_passMinute 4 = .ok (.invokevirtual 167, 3) := by decide +kernel
theorem d_PS_passMinute_7 : decode c_PS_passMinute 7 = .ok (.iconst 0, 1) := by decide +kernel
theorem d_PS_passMinute_8 : decode c_PS_passMinute 8 = .ok (.istore_n 1, 1) := by decide +kernel
theorem d_PS_passMinute_9 : decode c_PS_passMinute 9 = .ok (.iload_n 1, 1) := by decide +kernel
theorem d_PS_passMinute_10 : decode c_PS_passMinute 10 = .ok (.aload_n 0, 1) := by decide +kernel
theorem d_PS_passMinute_11 : decode c_PS_passMinute 11 = .ok (.getfield 35, 3) := by decide +kernel
theorem d_PS_passMinute_14 : decode c_PS_passMinute 14 = .ok (.getfield 73, 3) := by decide +kernel
theorem d_PS_passMinute_17 : decode c_PS_passMinute 17 = .ok (.if_icmp .ge 30, 3) := by decide +kernel
theorem d_PS_passMinute_20 : decode c_PS_passMinute 20 = .ok (.aload_n 0, 1) := by decide +kernel
theorem d_PS_passMinute_21 : decode c_PS_passMinute 21 = .ok (.getfield 35, 3) := by decide +kernel
theorem d_PS_passMinute_24 : decode c_PS_passMinute 24 = .ok (.getfield 92, 3) := by decide +kernel
theorem d_PS_passMinute_27 : decode c_PS_passMinute 27 = .ok (.iload_n 1, 1) := by decide +kernel
theorem d_PS_passMinute_28 : decode c_PS_passMinute 28 = .ok (.iaload, 1) := by decide +kernel
theorem d_PS_passMinute_29 : decode c_PS_passMinute 29 = .ok (.aload_n 0, 1) := by decide +kernel
theorem d_PS_passMinute_30 : decode c_PS_passMinute 30 = .ok (.getfield 43, 3) := by decide +kernel
theorem d_PS_passMinute_33 : decode c_PS_passMinute 33 = .ok (.if_icmp .gt 14, 3) := by decide +kernel
theorem d_PS_passMinute_36 : decode c_PS_passMinute 36 = .ok (.aload_n 0, 1) := by decide +kernel
theorem d_PS_passMinute_37 : decode c_PS_passMinute 37 = .ok (.iload_n 1, 1) := by decide +kernel
theorem d_PS_passMinute_38 : decode c_PS_passMinute 38 = .ok (.invokevirtual 170, 3) := by decide +kernel
theorem d_PS_passMinute_41 : decode c_PS_passMinute 41 = .ok (.iinc 1 1, 3) := by decide +kernel
theorem d_PS_passMinute_44 : decode c_PS_passMinute 44 = .ok (.goto (-35), 3) := by decide +kernel
theorem d_PS_passMinute_47 : decode c_PS_passMinute 47 = .ok (.aload_n 0, 1) := by decide +kernel
theorem d_PS_passMinute_48 : decode c_PS_passMinute 48 = .ok (.getfield 10, 3) := by decide +kernel
theorem d_PS_passMinute_51 : decode c_PS_passMinute 51 = .ok (.invokevirtual 173, 3) := by decide +kernel
theorem d_PS_passMinute_54 : decode c_PS_passMinute 54 = .ok (.aload_n 0, 1) := by decide +kernel
theorem d_PS_passMinute_55 : decode c_PS_passMinute 55 = .ok (.dup, 1) := by decide +kernel
theorem d_PS_passMinute_56 : decode c_PS_passMinute 56 = .ok (.getfield 43, 3) := by decide +kernel
theorem d_PS_passMinute_59 : decode c_PS_passMinute 59 = .ok (.iconst 1, 1) := by decide +kernel
theorem d_PS_passMinute_60 : decode c_PS_passMinute 60 = .ok (.iadd, 1) := by decide +kernel
theorem d_PS_passMinute_61 : decode c_PS_passMinute 61 = .ok (.putfield 43, 3) := by decide +kernel
theorem d_PS_passMinute_64 : decode c_PS_passMinute 64 = .ok (.return_, 1) := by decide +kernel
theorem d_PS_tryStep_0 : decode c_PS_tryStep 0 = .ok (.aload_n 0, 1) := by decide +kernel
theorem d_PS_tryStep_1 : decode c_PS_tryStep 1 = .ok (.getfield 26, 3) := by decide +kernel
theorem d_PS_tryStep_4 : decode c_PS_tryStep 4 = .ok (.iload_n 1, 1) := by decide +kernel
theorem d_PS_tryStep_5 : decode c_PS_tryStep 5 = .ok (.invokevirtual 111, 3) := by decide +kernel
theorem d_PS_tryStep_8 : decode c_PS_tryStep 8 = .ok (.istore_n 2, 1) := by decide +kernel
theorem d_PS_tryStep_9 : decode c_PS_tryStep 9 = .ok (.aload_n 0, 1) := by decide +kernel
theorem d_PS_tryStep_10 : decode c_PS_tryStep 10 = .ok (.getfield 35, 3) := by decide +kernel
theorem d_PS_tryStep_13 : decode c_PS_tryStep 13 = .ok (.iload_n 1, 1) := by decide +kernel
theorem d_PS_tryStep_14 : decode c_PS_tryStep 14 = .ok (.aload_n 0, 1) := by decide +kernel
theorem d_PS_tryStep_15 : decode c_PS_tryStep 15 = .ok (.getfield 43, 3) := by decide +kernel
theorem d_PS_tryStep_18 : decode c_PS_tryStep 18 = .ok (.invokevirtual 176, 3) := by decide +kernel
theorem d_PS_tryStep_21 : decode c_PS_tryStep 21 = .ok (.istore_n 3, 1) := by decide +kernel
theorem d_PS_tryStep_22 : decode c_PS_tryStep 22 = .ok (.iload_n 2, 1) := by decide +kernel
theorem d_PS_tryStep_23 : decode c_PS_tryStep 23 = .ok (.iload_n 3, 1) := by decide +kernel
theorem d_PS_tryStep_24 : decode c_PS_tryStep 24 = .ok (.if_icmp .ne 4, 3) := by decide +kernel
theorem d_PS_tryStep_27 : decode c_PS_tryStep 27 = .ok (.return_, 1) := by decide +kernel
theorem d_PS_tryStep_28 : decode c_PS_tryStep 28 = .ok (.iload_n 2, 1) := by decide +kernel
theorem d_PS_tryStep_29 : decode c_PS_tryStep 29 = .ok (.iconst (-1), 1) := by decide +kernel
theorem d_PS_tryStep_30 : decode c_PS_tryStep 30 = .ok (.if_icmp .ne 11, 3) := by decide +kernel
theorem d_PS_tryStep_33 : decode c_PS_tryStep 33 = .ok (.aload_n 0, 1) := by decide +kernel
theorem d_PS_tryStep_34 : decode c_PS_tryStep 34 = .ok (.iload_n 1, 1) := by decide +kernel
theorem d_PS_tryStep_35 : decode c_PS_tryStep 35 = .ok (.invokevirtual 179, 3) := by decide +kernel
theorem d_PS_tryStep_38 : decode c_PS_tryStep 38 = .ok (.goto 37, 3) := by decide +kernel
theorem d_PS_tryStep_41 : decode c_PS_tryStep 41 = .ok (.iload_n 3, 1) := by decide +kernel
theorem d_PS_tryStep_42 : decode c_PS_tryStep 42 = .ok (.iconst (-1), 1) := by decide +kernel
theorem d_PS_tryStep_43 : decode c_PS_tryStep 43 = .ok (.if_icmp .eq 13, 3) := by decide +kernel
theorem d_PS_tryStep_46 : decode c_PS_tryStep 46 = .ok (.aload_n 0, 1) := by decide +kernel
theorem d_PS_tryStep_47 : decode c_PS_tryStep 47 = .ok (.iload_n 1, 1) := by decide +kernel
theorem d_PS_tryStep_48 : decode c_PS_tryStep 48 = .ok (.iload_n 2, 1) := by decide +kernel
theorem d_PS_tryStep_49 : decode c_PS_tryStep 49 = .ok (.iload_n 3, 1) := by decide +kernel
theorem d_PS_tryStep_50 : decode c_PS_tryStep 50 = .ok (.invokevirtual 182, 3) := by decide +kernel
theorem d_PS_tryStep_53 : decode c_PS_tryStep 53 = .ok (.goto 22, 3) := by decide +kernel
theorem d_PS_tryStep_56 : decode c_PS_tryStep 56 = .ok (.iload_n 2, 1) := by decide +kernel
theorem d_PS_tryStep_57 : decode c_PS_tryStep 57 = .ok (.ifCond .eq 13, 3) := by decide +kernel
theorem d_PS_tryStep_60 : decode c_PS_tryStep 60 = .ok (.aload_n 0, 1) := by decide +kernel
theorem d_PS_tryStep_61 : decode c_PS_tryStep 61 = .ok (.iload_n 1, 1) := by decide +kernel
theorem d_PS_tryStep_62 : decode c_PS_tryStep 62 = .ok (.iload_n 2, 1) := by decide +kernel
theorem d_PS_tryStep_63 : decode c_PS_tryStep 63 = .ok (.iconst 0, 1) := by decide +kernel
theorem d_PS_tryStep_64 : decode c_PS_tryStep 64 = .ok (.invokevirtual 182, 3) := by decide +kernel
theorem d_PS_tryStep_67 : decode c_PS_tryStep 67 = .ok (.goto 8, 3) := by decide +kernel
theorem d_PS_tryStep_70 : decode c_PS_tryStep 70 = .ok (.aload_n 0, 1) := by decide +kernel
theorem d_PS_tryStep_71 : decode c_PS_tryStep 71 = .ok (.iload_n 1, 1) := by decide +kernel
theorem d_PS_tryStep_72 : decode c_PS_tryStep 72 = .ok (.invokevirtual 185, 3) := by decide +kernel
theorem d_PS_tryStep_75 : decode c_PS_tryStep 75 = .ok (.return_, 1) := by decide +kernel
theorem d_PS_tryEntrance_0 : decode c_PS_tryEntrance 0 = .ok (.aload_n 0, 1) := by decide +kernel
theorem d_PS_tryEntrance_1 : decode c_PS_tryEntrance 1 = .ok (.getfield 10, 3) := by decide +kernel
theorem d_PS_tryEntrance_4 : decode c_PS_tryEntrance 4 = .ok (.iconst 0, 1) := by decide +kernel
theorem d_PS_tryEntrance_5 : decode c_PS_tryEntrance 5 = .ok (.invokevirtual 188, 3) := by decide +kernel
theorem d_PS_tryEntrance_8 : decode c_PS_tryEntrance 8 = .ok (.ifCond .ne 17, 3) := by decide +kernel
theorem d_PS_tryEntrance_11 : decode c_PS_tryEntrance 11 = .ok (.aload_n 0, 1) := by decide +kernel
theorem d_PS_tryEntrance_12 : decode c_PS_tryEntrance 12 = .ok (.getfield 35, 3) := by decide +kernel
theorem d_PS_tryEntrance_15 : decode c_PS_tryEntrance 15 = .ok (.getfield 121, 3) := by decide +kernel
theorem d_PS_tryEntrance_18 : decode c_PS_tryEntrance 18 = .ok (.iload_n 1, 1) := by decide +kernel
theorem d_PS_tryEntrance_19 : decode c_PS_tryEntrance 19 = .ok (.dup2, 1) := by decide +kernel
theorem d_PS_tryEntrance_20 : decode c_PS_tryEntrance 20 = .ok (.iaload, 1) := by decide +kernel
theorem d_PS_tryEntrance_21 : decode c_PS_tryEntrance 21 = .ok (.iconst 1, 1) := by decide +kernel
theorem d_PS_tryEntrance_22 : decode c_PS_tryEntrance 22 = .ok (.iadd, 1) := by decide +kernel
theorem d_PS_tryEntrance_23 : decode c_PS_tryEntrance 23 = .ok (.iastore, 1) := by decide +kernel
theorem d_PS_tryEntrance_24 : decode c_PS_tryEntrance 24 = .ok (.return_, 1) := by decide +kernel
theorem d_PS_tryEntrance_25 : decode c_PS_tryEntrance 25 = .ok (.aload_n 0, 1) := by decide +kernel
theorem d_PS_tryEntrance_26 : decode c_PS_tryEntrance 26 = .ok (.getfield 10, 3) := by decide +kernel
theorem d_PS_tryEntrance_29 : decode c_PS_tryEntrance 29 = .ok (.getfield 124, 3) := by decide +kernel
theorem d_PS_tryEntrance_32 : decode c_PS_tryEntrance 32 = .ok (.iconst 0, 1) := by decide +kernel
theorem d_PS_tryEntrance_33 : decode c_PS_tryEntrance 33 = .ok (.dup2, 1) := by decide +kernel
theorem d_PS_tryEntrance_34 : decode c_PS_tryEntrance 34 = .ok (.iaload, 1) := by decide +kernel
theorem d_PS_tryEntrance_35 : decode c_PS_tryEntrance 35 = .ok (.iconst 1, 1) := by decide +kernel
theorem d_PS_tryEntrance_36 : decode c_PS_tryEntrance 36 = .ok (.iadd, 1) := by decide +kernel
theorem d_PS_tryEntrance_37 : decode c_PS_tryEntrance 37 = .ok (.iastore, 1) := by decide +kernel
theorem d_PS_tryEntrance_38 : decode c_PS_tryEntrance 38 = .ok (.aload_n 0, 1) := by decide +kernel
theorem d_PS_tryEntrance_39 : decode c_PS_tryEntrance 39 = .ok (.dup, 1) := by decide +kernel
theorem d_PS_tryEntrance_40 : decode c_PS_tryEntrance 40 = .ok (.getfield 83, 3) := by decide +kernel
theorem d_PS_tryEntrance_43 : decode c_PS_tryEntrance 43 = .ok (.iconst 1, 1) := by decide +kernel
theorem d_PS_tryEntrance_44 : decode c_PS_tryEntrance 44 = .ok (.iadd, 1) := by decide +kernel
theorem d_PS_tryEntrance_45 : decode c_PS_tryEntrance 45 = .ok (.putfield 83, 3) := by decide +kernel
theorem d_PS_tryEntrance_48 : decode c_PS_tryEntrance 48 = .ok (.aload_n 0, 1) := by decide +kernel
theorem d_PS_tryEntrance_49 : decode c_PS_tryEntrance 49 = .ok (.getfield 26, 3) := by decide +kernel
theorem d_PS_tryEntrance_52 : decode c_PS_tryEntrance 52 = .ok (.iload_n 1, 1) := by decide +kernel
theorem d_PS_tryEntrance_53 : decode c_PS_tryEntrance 53 = .ok (.aload_n 0, 1) := by decide +kernel
theorem d_PS_tryEntrance_54 : decode c_PS_tryEntrance 54 = .ok (.getfield 43, 3) := by decide +kernel
theorem d_PS_tryEntrance_57 : decode c_PS_tryEntrance 57 = .ok (.iconst 0, 1) := by decide +kernel
theorem d_PS_tryEntrance_58 : decode c_PS_tryEntrance 58 = .ok (.invokevirtual 192, 3) := by decide +kernel
theorem d_PS_tryEntrance_61 : decode c_PS_tryEntrance 61 = .ok (.return_, 1) := by decide +kernel
theorem d_PS_goOut_0 : decode c_PS_goOut 0 = .ok (.aload_n 0, 1) := by decide +kernel
theorem d_PS_goOut_1 : decode c_PS_goOut 1 = .ok (.getfield 10, 3) := by decide +kernel
theorem d_PS_goOut_4 : decode c_PS_goOut 4 = .ok (.getfield 124, 3) := by decide +kernel
theorem d_PS_goOut_7 : decode c_PS_goOut 7 = .ok (.iconst 0, 1) := by decide +kernel
theorem d_PS_goOut_8 : decode c_PS_goOut 8 = .ok (.dup2, 1) := by decide +kernel
theorem d_PS_goOut_9 : decode c_PS_goOut 9 = .ok (.iaload, 1) := by decide +kernel
theorem d_PS_goOut_10 : decode c_PS_goOut 10 = .ok (.iconst 1, 1) := by decide +kernel
theorem d_PS_goOut_11 : decode c_PS_goOut 11 = .ok (.isub, 1) := by decide +kernel
theorem d_PS_goOut_12 : decode c_PS_goOut 12 = .ok (.iastore, 1) := by decide +kernel
theorem d_PS_goOut_13 : decode c_PS_goOut 13 = .ok (.aload_n 0, 1) := by decide +kernel
theorem d_PS_goOut_14 : decode c_PS_goOut 14 = .ok (.dup, 1) := by decide +kernel
theorem d_PS_goOut_15 : decode c_PS_goOut 15 = .ok (.getfield 86, 3) := by decide +kernel
theorem d_PS_goOut_18 : decode c_PS_goOut 18 = .ok (.iconst 1, 1) := by decide +kernel
theorem d_PS_goOut_19 : decode c_PS_goOut 19 = .ok (.iadd, 1) := by decide +kernel
theorem d_PS_goOut_20 : decode c_PS_goOut 20 = .ok (.putfield 86, 3) := by decide +kernel
theorem d_PS_goOut_23 : decode c_PS_goOut 23 = .ok (.aload_n 0, 1) := by decide +kernel
theorem d_PS_goOut_24 : decode c_PS_goOut 24 = .ok (.getfield 26, 3) := by decide +kernel
theorem d_PS_goOut_27 : decode c_PS_goOut 27 = .ok (.iload_n 1, 1) := by decide +kernel
theorem d_PS_goOut_28 : decode c_PS_goOut 28 = .ok (.aload_n 0, 1) := by decide +kernel
theorem d_PS_goOut_29 : decode c_PS_goOut 29 = .ok (.getfield 43, 3) := by decide +kernel
theorem d_PS_goOut_32 : decode c_PS_goOut 32 = .ok (.iconst (-1), 1) := by decide +kernel
theorem d_PS_goOut_33 : decode c_PS_goOut 33 = .ok (.invokevirtual 192, 3) := by decide +kernel
theorem d_PS_goOut_36 : decode c_PS_goOut 36 = .ok (.return_, 1) := by decide +kernel
theorem d_PS_tryDoor_0 : decode c_PS_tryDoor 0 = .ok (.aload_n 0, 1) := by decide +kernel
theorem d_PS_tryDoor_1 : decode c_PS_tryDoor 1 = .ok (.getfield 19, 3) := by decide +kernel
theorem d_PS_tryDoor_4 : decode c_PS_tryDoor 4 = .ok (.iload_n 2, 1) := by decide +kernel
theorem d_PS_tryDoor_5 : decode c_PS_tryDoor 5 = .ok (.iload_n 3, 1) := by decide +kernel
theorem d_PS_tryDoor_6 : decode c_PS_tryDoor 6 = .ok (.invokevirtual 194, 3) := by decide +kernel
theorem d_PS_tryDoor_9 : decode c_PS_tryDoor 9 = .ok (.istore 4, 2) := by decide +kernel
theorem d_PS_tryDoor_11 : decode c_PS_tryDoor 11 = .ok (.iload 4, 2) := by decide +kernel
theorem d_PS_tryDoor_13 : decode c_PS_tryDoor 13 = .ok (.iconst (-1), 1) := by decide +kernel
theorem d_PS_tryDoor_14 : decode c_PS_tryDoor 14 = .ok (.if_icmp .ne 7, 3) := by decide +kernel
theorem d_PS_tryDoor_17 : decode c_PS_tryDoor 17 = .ok (.iconst (-1), 1) := by decide +kernel
theorem d_PS_tryDoor_18 : decode c_PS_tryDoor 18 = .ok (.goto 13, 3) := by decide +kernel
theorem d_PS_tryDoor_21 : decode c_PS_tryDoor 21 = .ok (.aload_n 0, 1) := by decide +kernel
theorem d_PS_tryDoor_22 : decode c_PS_tryDoor 22 = .ok (.getfield 19, 3) := by decide +kernel
theorem d_PS_tryDoor_25 : decode c_PS_tryDoor 25 = .ok (.iload 4, 2) := by decide +kernel
theorem d_PS_tryDoor_27 : decode c_PS_tryDoor 27 = .ok (.iload_n 2, 1) := by decide +kernel
theorem d_PS_tryDoor_28 : decode c_PS_tryDoor 28 = .ok (.invokevirtual 197, 3) := by decide +kernel
theorem d_PS_tryDoor_31 : decode c_PS_tryDoor 31 = .ok (.istore 5, 2) := by decide +kernel
theorem d_PS_tryDoor_33 : decode c_PS_tryDoor 33 = .ok (.iload 5, 2) := by decide +kernel
theorem d_PS_tryDoor_35 : decode c_PS_tryDoor 35 = .ok (.iconst (-1), 1) := by decide +kernel
theorem d_PS_tryDoor_36 : decode c_PS_tryDoor 36 = .ok (.if_icmp .ne 4, 3) := by decide +kernel
theorem d_PS_tryDoor_39 : decode c_PS_tryDoor 39 = .ok (.return_, 1) := by decide +kernel
theorem d_PS_tryDoor_40 : decode c_PS_tryDoor 40 = .ok (.aload_n 0, 1) := by decide +kernel
theorem d_PS_tryDoor_41 : decode c_PS_tryDoor 41 = .ok (.getfield 10, 3) := by decide +kernel
theorem d_PS_tryDoor_44 : decode c_PS_tryDoor 44 = .ok (.iload 5, 2) := by decide +kernel
theorem d_PS_tryDoor_46 : decode c_PS_tryDoor 46 = .ok (.invokevirtual 188, 3) := by decide +kernel
theorem d_PS_tryDoor_49 : decode c_PS_tryDoor 49 = .ok (.ifCond .eq 15, 3) := by decide +kernel
theorem d_PS_tryDoor_52 : decode c_PS_tryDoor 52 = .ok (.aload_n 0, 1) := by decide +kernel
theorem d_PS_tryDoor_53 : decode c_PS_tryDoor 53 = .ok (.getfield 19, 3) := by decide +kernel
theorem d_PS_tryDoor_56 : decode c_PS_tryDoor 56 = .ok (.iload 4, 2) := by decide +kernel
theorem d_PS_tryDoor_58 : decode c_PS_tryDoor 58 = .ok (.invokevirtual 200, 3) := by decide +kernel
theorem d_PS_tryDoor_61 : decode c_PS_tryDoor 61 = .ok (.ifCond .ne 17, 3) := by decide +kernel
theorem d_PS_tryDoor_64 : decode c_PS_tryDoor 64 = .ok (.aload_n 0, 1) := by decide +kernel
theorem d_PS_tryDoor_65 : decode c_PS_tryDoor 65 = .ok (.getfield 35, 3) := by decide +kernel
theorem d_PS_tryDoor_68 : decode c_PS_tryDoor 68 = .ok (.getfield 121, 3) := by decide +kernel
theorem d_PS_tryDoor_71 : decode c_PS_tryDoor 71 = .ok (.iload_n 1, 1) := by decide +kernel
theorem d_PS_tryDoor_72 : decode c_PS_tryDoor 72 = .ok (.dup2, 1) := by decide +kernel
theorem d_PS_tryDoor_73 : decode c_PS_tryDoor 73 = .ok (.iaload, 1) := by decide +kernel
theorem d_PS_tryDoor_74 : decode c_PS_tryDoor 74 = .ok (.iconst 1, 1) := by decide +kernel
theorem d_PS_tryDoor_75 : decode c_PS_tryDoor 75 = .ok (.iadd, 1) := by decide +kernel
theorem d_PS_tryDoor_76 : decode c_PS_tryDoor 76 = .ok (.iastore, 1) := by decide +kernel
theorem d_PS_tryDoor_77 : decode c_PS_tryDoor 77 = .ok (.return_, 1) := by decide +kernel
theorem d_PS_tryDoor_78 : decode c_PS_tryDoor 78 = .ok (.aload_n 0, 1) := by decide +kernel
theorem d_PS_tryDoor_79 : decode c_PS_tryDoor 79 = .ok (.getfield 19, 3) := by decide +kernel
theorem d_PS_tryDoor_82 : decode c_PS_tryDoor 82 = .ok (.iload 4, 2) := by decide +kernel
theorem d_PS_tryDoor_84 : decode c_PS_tryDoor 84 = .ok (.iload_n 2, 1) := by decide +kernel
theorem d_PS_tryDoor_85 : decode c_PS_tryDoor 85 = .ok (.invokevirtual 203, 3) := by decide +kernel
theorem d_PS_tryDoor_88 : decode c_PS_tryDoor 88 = .ok (.aload_n 0, 1) := by decide +kernel
theorem d_PS_tryDoor_89 : decode c_PS_tryDoor 89 = .ok (.getfield 10, 3) := by decide +kernel
theorem d_PS_tryDoor_92 : decode c_PS_tryDoor 92 = .ok (.getfield 124, 3) := by decide +kernel
theorem d_PS_tryDoor_95 : decode c_PS_tryDoor 95 = .ok (.iload_n 2, 1) := by decide +kernel
theorem d_PS_tryDoor_96 : decode c_PS_tryDoor 96 = .ok (.dup2, 1) := by decide +kernel
theorem d_PS_tryDoor_97 : decode c_PS_tryDoor 97 = .ok (.iaload, 1) := by decide +kernel
theorem d_PS_tryDoor_98 : decode c_PS_tryDoor 98 = .ok (.iconst 1, 1) := by decide +kernel
theorem d_PS_tryDoor_99 : decode c_PS_tryDoor 99 = .ok (.isub, 1) := by decide +kernel
theorem d_PS_tryDoor_100 : decode c_PS_tryDoor 100 = .ok (.iastore, 1) := by decide +kernel
theorem d_PS_tryDoor_101 : decode c_PS_tryDoor 101 = .ok (.aload_n 0, 1) := by decide +kernel
theorem d_PS_tryDoor_102 : decode c_PS_tryDoor 102 = .ok (.getfield 10, 3) := by decide +kernel
theorem d_PS_tryDoor_105 : decode c_PS_tryDoor 105 = .ok (.getfield 124, 3) := by decide +kernel
theorem d_PS_tryDoor_108 : decode c_PS_tryDoor 108 = .ok (.iload 5, 2) := by decide +kernel
theorem d_PS_tryDoor_110 : decode c_PS_tryDoor 110 = .ok (.dup2, 1) := by decide +kernel
theorem d_PS_tryDoor_111 : decode c_PS_tryDoor 111 = .ok (.iaload, 1) := by decide +kernel
theorem d_PS_tryDoor_112 : decode c_PS_tryDoor 112 = .ok (.iconst 1, 1) := by decide +kernel
theorem d_PS_tryDoor_113 : decode c_PS_tryDoor 113 = .ok (.iadd, 1) := by decide +kernel
theorem d_PS_tryDoor_114 : decode c_PS_tryDoor 114 = .ok (.iastore, 1) := by decide +kernel
theorem d_PS_tryDoor_115 : decode c_PS_tryDoor 115 = .ok (.aload_n 0, 1) := by decide +kernel
theorem d_PS_tryDoor_116 : decode c_PS_tryDoor 116 = .ok (.getfield 26, 3) := by decide +kernel
theorem d_PS_tryDoor_119 : decode c_PS_tryDoor 119 = .ok (.iload_n 1, 1) := by decide +kernel
theorem d_PS_tryDoor_120 : decode c_PS_tryDoor 120 = .ok (.aload_n 0, 1) := by decide +kernel
theorem d_PS_tryDoor_121 : decode c_PS_tryDoor 121 = .ok (.getfield 43, 3) := by decide +kernel
theorem d_PS_tryDoor_124 : decode c_PS_tryDoor 124 = .ok (.iload 5, 2) := by decide +kernel
theorem d_PS_tryDoor_126 : decode c_PS_tryDoor 126 = .ok (.invokevirtual 192, 3) := by decide +kernel
theorem d_PS_tryDoor_129 : decode c_PS_tryDoor 129 = .ok (.return_, 1) := by decide +kernel
end
section
theorem d_Ar_fill_0 : decode c_Ar_fill 0 = .ok (.iconst 0, 1) := by decide +kernel
theorem d_Ar_fill_1 : decode c_Ar_fill 1 = .ok (.istore_n 2, 1) := by decide +kernel
theorem d_Ar_fill_2 : decode c_Ar_fill 2 = .ok (.aload_n 0, 1) := by decide +kernel
theorem d_Ar_fill_3 : decode c_Ar_fill 3 = .ok (.arraylength, 1) := by decide +kernel
theorem d_Ar_fill_4 : decode c_Ar_fill 4 = .ok (.istore_n 3, 1) := by decide +kernel
theorem d_Ar_fill_5 : decode c_Ar_fill 5 = .ok (.iload_n 2, 1) := by decide +kernel
theorem d_Ar_fill_6 : decode c_Ar_fill 6 = .ok (.iload_n 3, 1) := by decide +kernel
theorem d_Ar_fill_7 : decode c_Ar_fill 7 = .ok (.if_icmp .ge 13, 3) := by decide +kernel
theorem d_Ar_fill_10 : decode c_Ar_fill 10 = .ok (.aload_n 0, 1) := by decide +kernel
theorem d_Ar_fill_11 : decode c_Ar_fill 11 = .ok (.iload_n 2, 1) := by decide +kernel
theorem d_Ar_fill_12 : decode c_Ar_fill 12 = .ok (.iload_n 1, 1) := by decide +kernel
theorem d_Ar_fill_13 : decode c_Ar_fill 13 = .ok (.iastore, 1) := by decide +kernel
theorem d_Ar_fill_14 : decode c_Ar_fill 14 = .ok (.iinc 2 1, 3) := by decide +kernel
theorem d_Ar_fill_17 : decode c_Ar_fill 17 = .ok (.goto (-12), 3) := by decide +kernel
theorem d_Ar_fill_20 : decode c_Ar_fill 20 = .ok (.return_, 1) := by decide +kernel
end
section
theorem d_Do_init_0 : decode c_Do_init 0 = .ok (.aload_n 0, 1) := by decide +kernel
theorem d_Do_init_1 : decode c_Do_init 1 = .ok (.invokespecial 3, 3) := by decide +kernel
theorem d_Do_init_4 : decode c_Do_init 4 = .ok (.aload_n 0, 1) := by decide +kernel
theorem d_Do_init_5 : decode c_Do_init 5 = .ok (.bipush 16, 2) := by decide +kernel
theorem d_Do_init_7 : decode c_Do_init 7 = .ok (.newarray .int, 2) := by decide +kernel
theorem d_Do_init_9 : decode c_Do_init 9 = .ok (.putfield 9, 3) := by decide +kernel
theorem d_Do_init_12 : decode c_Do_init 12 = .ok (.aload_n 0, 1) := by decide +kernel
theorem d_Do_init_13 : decode c_Do_init 13 = .ok (.bipush 16, 2) := by decide +kernel
theorem d_Do_init_15 : decode c_Do_init 15 = .ok (.newarray .int, 2) := by decide +kernel
theorem d_Do_init_17 : decode c_Do_init 17 = .ok (.putfield 15, 3) := by decide +kernel
theorem d_Do_init_20 : decode c_Do_init 20 = .ok (.aload_n 0, 1) := by decide +kernel
theorem d_Do_init_21 : decode c_Do_init 21 = .ok (.bipush 16, 2) := by decide +kernel
theorem d_Do_init_23 : decode c_Do_init 23 = .ok (.newarray .int, 2) := by decide +kernel
theorem d_Do_init_25 : decode c_Do_init 25 = .ok (.putfield 18, 3) := by decide +kernel
theorem d_Do_init_28 : decode c_Do_init 28 = .ok (.aload_n 0, 1) := by decide +kernel
theorem d_Do_init_29 : decode c_Do_init 29 = .ok (.bipush 16, 2) := by decide +kernel
theorem d_Do_init_31 : decode c_Do_init 31 = .ok (.newarray .int, 2) := by decide +kernel
theorem d_Do_init_33 : decode c_Do_init 33 = .ok (.putfield 21, 3) := by decide +kernel
theorem d_Do_init_36 : decode c_Do_init 36 = .ok (.aload_n 0, 1) := by decide +kernel
theorem d_Do_init_37 : decode c_Do_init 37 = .ok (.bipush 16, 2) := by decide +kernel
theorem d_Do_init_39 : decode c_Do_init 39 = .ok (.newarray .int, 2) := by decide +kernel
theorem d_Do_init_41 : decode c_Do_init 41 = .ok (.putfield 24, 3) := by decide +kernel
theorem d_Do_init_44 : decode c_Do_init 44 = .ok (.aload_n 0, 1) := by decide +kernel
theorem d_Do_init_45 : decode c_Do_init 45 = .ok (.bipush 16, 2) := by decide +kernel
theorem d_Do_init_47 : decode c_Do_init 47 = .ok (.newarray .int, 2) := by decide +kernel
theorem d_Do_init_49 : decode c_Do_init 49 = .ok (.putfield 27, 3) := by decide +kernel
theorem d_Do_init_52 : decode c_Do_init 52 = .ok (.aload_n 0, 1) := by decide +kernel
theorem d_Do_init_53 : decode c_Do_init 53 = .ok (.sipush 144, 3) := by decide +kernel
theorem d_Do_init_56 : decode c_Do_init 56 = .ok (.newarray .int, 2) := by decide +kernel
theorem d_Do_init_58 : decode c_Do_init 58 = .ok (.putfield 30, 3) := by decide +kernel
theorem d_Do_init_61 : decode c_Do_init 61 = .ok (.aload_n 0, 1) := by decide +kernel
theorem d_Do_init_62 : decode c_Do_init 62 = .ok (.getfield 30, 3) := by decide +kernel
theorem d_Do_init_65 : decode c_Do_init 65 = .ok (.sipush 1000, 3) := by decide +kernel
theorem d_Do_init_68 : decode c_Do_init 68 = .ok (.invokestatic 33, 3) := by decide +kernel
theorem d_Do_init_71 : decode c_Do_init 71 = .ok (.iconst 0, 1) := by decide +kernel
theorem d_Do_init_72 : decode c_Do_init 72 = .ok (.istore_n 1, 1) := by decide +kernel
theorem d_Do_init_73 : decode c_Do_init 73 = .ok (.iload_n 1, 1) := by decide +kernel
theorem d_Do_init_74 : decode c_Do_init 74 = .ok (.bipush 12, 2) := by decide +kernel
theorem d_Do_init_76 : decode c_Do_init 76 = .ok (.if_icmp .ge 21, 3) := by decide +kernel
theorem d_Do_init_79 : decode c_Do_init 79 = .ok (.aload_n 0, 1) := by decide +kernel
theorem d_Do_init_80 : decode c_Do_init 80 = .ok (.getfield 30, 3) := by decide +kernel
theorem d_Do_init_83 : decode c_Do_init 83 = .ok (.iload_n 1, 1) := by decide +kernel
theorem d_Do_init_84 : decode c_Do_init 84 = .ok (.bipush 12, 2) := by decide +kernel
theorem d_Do_init_86 : decode c_Do_init 86 = .ok (.imul, 1) := by decide +kernel
theorem d_Do_init_87 : decode c_Do_init 87 = .ok (.iload_n 1, 1) := by decide +kernel
theorem d_Do_init_88 : decode c_Do_init 88 = .ok (.iadd, 1) := by decide +kernel
theorem d_Do_init_89 : decode c_Do_init 89 = .ok (.iconst 0, 1) := by decide +kernel
theorem d_Do_init_90 : decode c_Do_init 90 = .ok (.iastore, 1) := by decide +kernel
theorem d_Do_init_91 : decode c_Do_init 91 = .ok (.iinc 1 1, 3) := by decide +kernel
theorem d_Do_init_94 : decode c_Do_init 94 = .ok (.goto (-21), 3) := by decide +kernel
theorem d_Do_init_97 : decode c_Do_init 97 = .ok (.return_, 1) := by decide +kernel
theorem d_Do_add_0 : decode c_Do_add 0 = .ok (.aload_n 0, 1) := by decide +kernel
theorem d_Do_add_1 : decode c_Do_add 1 = .ok (.getfield 9, 3) := by decide +kernel
theorem d_Do_add_4 : decode c_Do_add 4 = .ok (.aload_n 0, 1) := by decide +kernel
theorem d_Do_add_5 : decode c_Do_add 5 = .ok (.getfield 39, 3) := by decide +kernel
theorem d_Do_add_8 : decode c_Do_add 8 = .ok (.iload_n 1, 1) := by decide +kernel
theorem d_Do_add_9 : decode c_Do_add 9 = .ok (.iastore, 1) := by decide +kernel
theorem d_Do_add_10 : decode c_Do_add 10 = .ok (.aload_n 0, 1) := by decide +kernel
theorem d_Do_add_11 : decode c_Do_add 11 = .ok (.getfield 15, 3) := by decide +kernel
theorem d_Do_add_14 : decode c_Do_add 14 = .ok (.aload_n 0, 1) := by decide +kernel
theorem d_Do_add_15 : decode c_Do_add 15 = .ok (.getfield 39, 3) := by decide +kernel
theorem d_Do_add_18 : decode c_Do_add 18 = .ok (.iload_n 2, 1) := by decide +kernel
theorem d_Do_add_19 : decode c_Do_add 19 = .ok (.iastore, 1) := by decide +kernel
theorem d_Do_add_20 : decode c_Do_add 20 = .ok (.aload_n 0, 1) := by decide +kernel
theorem d_Do_add_21 : decode c_Do_add 21 = .ok (.getfield 18, 3) := by decide +kernel
theorem d_Do_add_24 : decode c_Do_add 24 = .ok (.aload_n 0, 1) := by decide +kernel
theorem d_Do_add_25 : decode c_Do_add 25 = .ok (.getfield 39, 3) := by decide +kernel
theorem d_Do_add_28 : decode c_Do_add 28 = .ok (.iload_n 3, 1) := by decide +kernel
theorem d_Do_add_29 : decode c_Do_add 29 = .ok (.iastore, 1) := by decide +kernel
theorem d_Do_add_30 : decode c_Do_add 30 = .ok (.aload_n 0, 1) := by decide +kernel
theorem d_Do_add_31 : decode c_Do_add 31 = .ok (.dup, 1) := by decide +kernel
theorem d_Do_add_32 : decode c_Do_add 32 = .ok (.getfield 39, 3) := by decide +kernel
theorem d_Do_add_35 : decode c_Do_add 35 = .ok (.iconst 1, 1) := by decide +kernel
theorem d_Do_add_36 : decode c_Do_add 36 = .ok (.iadd, 1) := by decide +kernel
theorem d_Do_add_37 : decode c_Do_add 37 = .ok (.putfield 39, 3) := by decide +kernel
theorem d_Do_add_40 : decode c_Do_add 40 = .ok (.aload_n 0, 1) := by decide +kernel
theorem d_Do_add_41 : decode c_Do_add 41 = .ok (.iload_n 1, 1) := by decide +kernel
theorem d_Do_add_42 : decode c_Do_add 42 = .ok (.iload_n 2, 1) := by decide +kernel
theorem d_Do_add_43 : decode c_Do_add 43 = .ok (.invokevirtual 43, 3) := by decide +kernel
theorem d_Do_add_46 : decode c_Do_add 46 = .ok (.aload_n 0, 1) := by decide +kernel
theorem d_Do_add_47 : decode c_Do_add 47 = .ok (.getfield 39, 3) := by decide +kernel
theorem d_Do_add_50 : decode c_Do_add 50 = .ok (.iconst 1, 1) := by decide +kernel
theorem d_Do_add_51 : decode c_Do_add 51 = .ok (.isub, 1) := by decide +kernel
theorem d_Do_add_52 : decode c_Do_add 52 = .ok (.ireturn, 1) := by decide +kernel
theorem d_Do_shortenWays_0 : decode c_Do_shortenWays 0 = .ok (.iconst 0, 1) := by decide +kernel
theorem d_Do_shortenWays_1 : decode c_Do_shortenWays 1 = .ok (.istore_n 3, 1) := by decide +kernel
theorem d_Do_shortenWays_2 : decode c_Do_shortenWays 2 = .ok (.iload_n 3, 1) := by decide +kernel
theorem d_Do_shortenWays_3 : decode c_Do_shortenWays 3 = .ok (.bipush 12, 2) := by decide +kernel
theorem d_Do_shortenWays_5 : decode c_Do_shortenWays 5 = .ok (.if_icmp .ge 94, 3) := by decide +kernel
theorem d_Do_shortenWays_8 : decode c_Do_shortenWays 8 = .ok (.iconst 0, 1) := by decide +kernel
theorem d_Do_shortenWays_9 : decode c_Do_shortenWays 9 = .ok (.istore 4, 2) := by decide +kernel
theorem d_Do_shortenWays_11 : decode c_Do_shortenWays 11 = .ok (.iload 4, 2) := by decide +kernel
theorem d_Do_shortenWays_13 : decode c_Do_shortenWays 13 = .ok (.bipush 12, 2) := by decide +kernel
theorem d_Do_shortenWays_15 : decode c_Do_shortenWays 15 = .ok (.if_icmp .ge 78, 3) := by decide +kernel
theorem d_Do_shortenWays_18 : decode c_Do_shortenWays 18 = .ok (.aload_n 0, 1) := by decide +kernel
theorem d_Do_shortenWays_19 : decode c_Do_shortenWays 19 = .ok (.iload_n 3, 1) := by decide +kernel
theorem d_Do_shortenWays_20 : decode c_Do_shortenWays 20 = .ok (.iload_n 1, 1) := by decide +kernel
theorem d_Do_shortenWays_21 : decode c_Do_shortenWays 21 = .ok (.invokevirtual 47, 3) := by decide +kernel
theorem d_Do_shortenWays_24 : decode c_Do_shortenWays 24 = .ok (.iconst 1, 1) := by decide +kernel
theorem d_Do_shortenWays_25 : decode c_Do_shortenWays 25 = .ok (.iadd, 1) := by decide +kernel
theorem d_Do_shortenWays_26 : decode c_Do_shortenWays 26 = .ok (.aload_n 0, 1) := by decide +kernel
theorem d_Do_shortenWays_27 : decode c_Do_shortenWays 27 = .ok (.iload_n 2, 1) := by decide +kernel
theorem d_Do_shortenWays_28 : decode c_Do_shortenWays 28 = .ok (.iload 4, 2) := by decide +kernel
theorem d_Do_shortenWays_30 : decode c_Do_shortenWays 30 = .ok (.invokevirtual 47, 3) := by decide +kernel
theorem d_Do_shortenWays_33 : decode c_Do_shortenWays 33 = .ok (.iadd, 1) := by decide +kernel
theorem d_Do_shortenWays_34 : decode c_Do_shortenWays 34 = .ok (.istore 5, 2) := by decide +kernel
theorem d_Do_shortenWays_36 : decode c_Do_shortenWays 36 = .ok (.aload_n 0, 1) := by decide +kernel
theorem d_Do_shortenWays_37 : decode c_Do_shortenWays 37 = .ok (.iload_n 3, 1) := by decide +kernel
theorem d_Do_shortenWays_38 : decode c_Do_shortenWays 38 = .ok (.iload_n 2, 1) := by decide +kernel
theorem d_Do_shortenWays_39 : decode c_Do_shortenWays 39 = .ok (.invokevirtual 47, 3) := by decide +kernel
theorem d_Do_shortenWays_42 : decode c_Do_shortenWays 42 = .ok (.iconst 1, 1) := by decide +kernel
theorem d_Do_shortenWays_43 : decode c_Do_shortenWays 43 = .ok (.iadd, 1) := by decide +kernel
theorem d_Do_shortenWays_44 : decode c_Do_shortenWays 44 = .ok (.aload_n 0, 1) := by decide +kernel
theorem d_Do_shortenWays_45 : decode c_Do_shortenWays 45 = .ok (.iload_n 1, 1) := by decide +kernel
theorem d_Do_shortenWays_46 : decode c_Do_shortenWays 46 = .ok (.iload 4, 2) := by decide +kernel
theorem d_Do_shortenWays_48 : decode c_Do_shortenWays 48 = .ok (.invokevirtual 47, 3) := by decide +kernel
theorem d_Do_shortenWays_51 : decode c_Do_shortenWays 51 = .ok (.iadd, 1) := by decide +kernel
theorem d_Do_shortenWays_52 : decode c_Do_shortenWays 52 = .ok (.istore 6, 2) := by decide +kernel
theorem d_Do_shortenWays_54 : decode c_Do_shortenWays 54 = .ok (.iload 5, 2) := by decide +kernel
theorem d_Do_shortenWays_56 : decode c_Do_shortenWays 56 = .ok (.iload 6, 2) := by decide +kernel
theorem d_Do_shortenWays_58 : decode c_Do_shortenWays 58 = .ok (.invokestatic 51, 3) := by decide +kernel
theorem d_Do_shortenWays_61 : decode c_Do_shortenWays 61 = .ok (.istore 7, 2) := by decide +kernel
theorem d_Do_shortenWays_63 : decode c_Do_shortenWays 63 = .ok (.aload_n 0, 1) := by decide +kernel
theorem d_Do_shortenWays_64 : decode c_Do_shortenWays 64 = .ok (.getfield 30, 3) := by decide +kernel
theorem d_Do_shortenWays_67 : decode c_Do_shortenWays 67 = .ok (.iload_n 3, 1) := by decide +kernel
theorem d_Do_shortenWays_68 : decode c_Do_shortenWays 68 = .ok (.bipush 12, 2) := by decide +kernel
theorem d_Do_shortenWays_70 : decode c_Do_shortenWays 70 = .ok (.imul, 1) := by decide +kernel
theorem d_Do_shortenWays_71 : decode c_Do_shortenWays 71 = .ok (.iload 4, 2) := by decide +kernel
theorem d_Do_shortenWays_73 : decode c_Do_shortenWays 73 = .ok (.iadd, 1) := by decide +kernel
theorem d_Do_shortenWays_74 : decode c_Do_shortenWays 74 = .ok (.aload_n 0, 1) := by decide +kernel
theorem d_Do_shortenWays_75 : decode c_Do_shortenWays 75 = .ok (.iload_n 3, 1) := by decide +kernel
theorem d_Do_shortenWays_76 : decode c_Do_shortenWays 76 = .ok (.iload 4, 2) := by decide +kernel
theorem d_Do_shortenWays_78 : decode c_Do_shortenWays 78 = .ok (.invokevirtual 47, 3) := by decide +kernel
theorem d_Do_shortenWays_81 : decode c_Do_shortenWays 81 = .ok (.iload 7, 2) := by decide +kernel
theorem d_Do_shortenWays_83 : decode c_Do_shortenWays 83 = .ok (.invokestatic 51, 3) := by decide +kernel
theorem d_Do_shortenWays_86 : decode c_Do_shortenWays 86 = .ok (.iastore, 1) := by decide +kernel
theorem d_Do_shortenWays_87 : decode c_Do_shortenWays 87 = .ok (.iinc 4 1, 3) := by decide +kernel
theorem d_Do_shortenWays_90 : decode c_Do_shortenWays 90 = .ok (.goto (-79), 3) := by decide +kernel
theorem d_Do_shortenWays_93 : decode c_Do_shortenWays 93 = .ok (.iinc 3 1, 3) := by decide +kernel
theorem d_Do_shortenWays_96 : decode c_Do_shortenWays 96 = .ok (.goto (-94), 3) := by decide +kernel
theorem d_Do_shortenWays_99 : decode c_Do_shortenWays 99 = .ok (.return_, 1) := by decide +kernel
theorem d_Do_stepsBetween_0 : decode c_Do_stepsBetween 0 = .ok (.aload_n 0, 1) := by decide +kernel
theorem d_Do_stepsBetween_1 : decode c_Do_stepsBetween 1 = .ok (.getfield 30, 3) := by decide +kernel
theorem d_Do_stepsBetween_4 : decode c_Do_stepsBetween 4 = .ok (.iload_n 1, 1) := by decide +kernel
theorem d_Do_stepsBetween_5 : decode c_Do_stepsBetween 5 = .ok (.bipush 12, 2) := by decide +kernel
theorem d_Do_stepsBetween_7 : decode c_Do_stepsBetween 7 = .ok (.imul, 1) := by decide +kernel
theorem d_Do_stepsBetween_8 : decode c_Do_stepsBetween 8 = .ok (.iload_n 2, 1) := by decide +kernel
theorem d_Do_stepsBetween_9 : decode c_Do_stepsBetween 9 = .ok (.iadd, 1) := by decide +kernel
theorem d_Do_stepsBetween_10 : decode c_Do_stepsBetween 10 = .ok (.iaload, 1) := by decide +kernel
theorem d_Do_stepsBetween_11 : decode c_Do_stepsBetween 11 = .ok (.ireturn, 1) := by decide +kernel
theorem d_Do_behind_0 : decode c_Do_behind 0 = .ok (.aload_n 0, 1) := by decide +kernel
theorem d_Do_behind_1 : decode c_Do_behind 1 = .ok (.getfield 9, 3) := by decide +kernel
theorem d_Do_behind_4 : decode c_Do_behind 4 = .ok (.iload_n 1, 1) := by decide +kernel
theorem d_Do_behind_5 : decode c_Do_behind 5 = .ok (.iaload, 1) := by decide +kernel
theorem d_Do_behind_6 : decode c_Do_behind 6 = .ok (.iload_n 2, 1) := by decide +kernel
theorem d_Do_behind_7 : decode c_Do_behind 7 = .ok (.if_icmp .ne 10, 3) := by decide +kernel
theorem d_Do_behind_10 : decode c_Do_behind 10 = .ok (.aload_n 0, 1) := by decide +kernel
theorem d_Do_behind_11 : decode c_Do_behind 11 = .ok (.getfield 15, 3) := by decide +kernel
theorem d_Do_behind_14 : decode c_Do_behind 14 = .ok (.iload_n 1, 1) := by decide +kernel
theorem d_Do_behind_15 : decode c_Do_behind 15 = .ok (.iaload, 1) := by decide +kernel
theorem d_Do_behind_16 : decode c_Do_behind 16 = .ok (.ireturn, 1) := by decide +kernel
theorem d_Do_behind_17 : decode c_Do_behind 17 = .ok (.aload_n 0, 1) := by decide +kernel
theorem d_Do_behind_18 : decode c_Do_behind 18 = .ok (.getfield 15, 3) := by decide +kernel
theorem d_Do_behind_21 : decode c_Do_behind 21 = .ok (.iload_n 1, 1) := by decide +kernel
theorem d_Do_behind_22 : decode c_Do_behind 22 = .ok (.iaload, 1) := by decide +kernel
theorem d_Do_behind_23 : decode c_Do_behind 23 = .ok (.iload_n 2, 1) := by decide +kernel
theorem d_Do_behind_24 : decode c_Do_behind 24 = .ok (.if_icmp .ne 12, 3) := by decide +kernel
theorem d_Do_behind_27 : decode c_Do_behind 27 = .ok (.aload_n 0, 1) := by decide +kernel
theorem d_Do_behind_28 : decode c_Do_behind 28 = .ok (.getfield 9, 3) := by decide +kernel
theorem d_Do_behind_31 : decode c_Do_behind 31 = .ok (.iload_n 1, 1) := by decide +kernel
theorem d_Do_behind_32 : decode c_Do_behind 32 = .ok (.iaload, 1) := by decide +kernel
theorem d_Do_behind_33 : decode c_Do_behind 33 = .ok (.goto 4, 3) := by decide +kernel
theorem d_Do_behind_36 : decode c_Do_behind 36 = .ok (.iconst (-1), 1) := by decide +kernel
theorem d_Do_behind_37 : decode c_Do_behind 37 = .ok (.ireturn, 1) := by decide +kernel
theorem d_Do_towards_0 : decode c_Do_towards 0 = .ok (.aload_n 0, 1) := by decide +kernel
theorem d_Do_towards_1 : decode c_Do_towards 1 = .ok (.iload_n 1, 1) := by decide +kernel
theorem d_Do_towards_2 : decode c_Do_towards 2 = .ok (.iload_n 2, 1) := by decide +kernel
theorem d_Do_towards_3 : decode c_Do_towards 3 = .ok (.invokevirtual 47, 3) := by decide +kernel
theorem d_Do_towards_6 : decode c_Do_towards 6 = .ok (.istore_n 3, 1) := by decide +kernel
theorem d_Do_towards_7 : decode c_Do_towards 7 = .ok (.iconst 0, 1) := by decide +kernel
theorem d_Do_towards_8 : decode c_Do_towards 8 = .ok (.istore 4, 2) := by decide +kernel
theorem d_Do_towards_10 : decode c_Do_towards 10 = .ok (.iload 4, 2) := by decide +kernel
theorem d_Do_towards_12 : decode c_Do_towards 12 = .ok (.aload_n 0, 1) := by decide +kernel
theorem d_Do_towards_13 : decode c_Do_towards 13 = .ok (.getfield 39, 3) := by decide +kernel
theorem d_Do_towards_16 : decode c_Do_towards 16 = .ok (.if_icmp .ge 45, 3) := by decide +kernel
theorem d_Do_towards_19 : decode c_Do_towards 19 = .ok (.iload_n 3, 1) := by decide +kernel
theorem d_Do_towards_20 : decode c_Do_towards 20 = .ok (.sipush 1000, 3) := by decide +kernel
theorem d_Do_towards_23 : decode c_Do_towards 23 = .ok (.if_icmp .ge 38, 3) := by decide +kernel
theorem d_Do_towards_26 : decode c_Do_towards 26 = .ok (.aload_n 0, 1) := by decide +kernel
theorem d_Do_towards_27 : decode c_Do_towards 27 = .ok (.iload 4, 2) := by decide +kernel
theorem d_Do_towards_29 : decode c_Do_towards 29 = .ok (.iload_n 1, 1) := by decide +kernel
theorem d_Do_towards_30 : decode c_Do_towards 30 = .ok (.invokevirtual 56, 3) := by decide +kernel
theorem d_Do_towards_33 : decode c_Do_towards 33 = .ok (.istore 5, 2) := by decide +kernel
theorem d_Do_towards_35 : decode c_Do_towards 35 = .ok (.iload 5, 2) := by decide +kernel
theorem d_Do_towards_37 : decode c_Do_towards 37 = .ok (.iconst (-1), 1) := by decide +kernel
theorem d_Do_towards_38 : decode c_Do_towards 38 = .ok (.if_icmp .eq 17, 3) := by decide +kernel
theorem d_Do_towards_41 : decode c_Do_towards 41 = .ok (.aload_n 0, 1) := by decide +kernel
theorem d_Do_towards_42 : decode c_Do_towards 42 = .ok (.iload 5, 2) := by decide +kernel
theorem d_Do_towards_44 : decode c_Do_towards 44 = .ok (.iload_n 2, 1) := by decide +kernel
theorem d_Do_towards_45 : decode c_Do_towards 45 = .ok (.invokevirtual 47, 3) := by decide +kernel
theorem d_Do_towards_48 : decode c_Do_towards 48 = .ok (.iload_n 3, 1) := by decide +kernel
theorem d_Do_towards_49 : decode c_Do_towards 49 = .ok (.if_icmp .ge 6, 3) := by decide +kernel
theorem d_Do_towards_52 : decode c_Do_towards 52 = .ok (.iload 4, 2) := by decide +kernel
theorem d_Do_towards_54 : decode c_Do_towards 54 = .ok (.ireturn, 1) := by decide +kernel
theorem d_Do_towards_55 : decode c_Do_towards 55 = .ok (.iinc 4 1, 3) := by decide +kernel
theorem d_Do_towards_58 : decode c_Do_towards 58 = .ok (.goto (-48), 3) := by decide +kernel
theorem d_Do_towards_61 : decode c_Do_towards 61 = .ok (.iconst (-1), 1) := by decide +kernel
theorem d_Do_towards_62 : decode c_Do_towards 62 = .ok (.ireturn, 1) := by decide +kernel
theorem d_Do_beginMinute_0 : decode c_Do_beginMinute 0 = .ok (.aload_n 0, 1) := by decide +kernel
theorem d_Do_beginMinute_1 : decode c_Do_beginMinute 1 = .ok (.getfield 27, 3) := by decide +kernel
theorem d_Do_beginMinute_4 : decode c_Do_beginMinute 4 = .ok (.iconst 0, 1) := by decide +kernel
theorem d_Do_beginMinute_5 : decode c_Do_beginMinute 5 = .ok (.invokestatic 33, 3) := by decide +kernel
theorem d_Do_beginMinute_8 : decode c_Do_beginMinute 8 = .ok (.return_, 1) := by decide +kernel
theorem d_Do_isFree_0 : decode c_Do_isFree 0 = .ok (.aload_n 0, 1) := by decide +kernel
theorem d_Do_isFree_1 : decode c_Do_isFree 1 = .ok (.getfield 27, 3) := by decide +kernel
theorem d_Do_isFree_4 : decode c_Do_isFree 4 = .ok (.iload_n 1, 1) := by decide +kernel
theorem d_Do_isFree_5 : decode c_Do_isFree 5 = .ok (.iaload, 1) := by decide +kernel
theorem d_Do_isFree_6 : decode c_Do_isFree 6 = .ok (.aload_n 0, 1) := by decide +kernel
theorem d_Do_isFree_7 : decode c_Do_isFree 7 = .ok (.getfield 18, 3) := by decide +kernel
theorem d_Do_isFree_10 : decode c_Do_isFree 10 = .ok (.iload_n 1, 1) := by decide +kernel
theorem d_Do_isFree_11 : decode c_Do_isFree 11 = .ok (.iaload, 1) := by decide +kernel
theorem d_Do_isFree_12 : decode c_Do_isFree 12 = .ok (.if_icmp .ge 7, 3) := by decide +kernel
theorem d_Do_isFree_15 : decode c_Do_isFree 15 = .ok (.iconst 1, 1) := by decide +kernel
theorem d_Do_isFree_16 : decode c_Do_isFree 16 = .ok (.goto 4, 3) := by decide +kernel
theorem d_Do_isFree_19 : decode c_Do_isFree 19 = .ok (.iconst 0, 1) := by decide +kernel
theorem d_Do_isFree_20 : decode c_Do_isFree 20 = .ok (.ireturn, 1) := by decide +kernel
theorem d_Do_pass_0 : decode c_Do_pass 0 = .ok (.aload_n 0, 1) := by decide +kernel
theorem d_Do_pass_1 : decode c_Do_pass 1 = .ok (.getfield 27, 3) := by decide +kernel
theorem d_Do_pass_4 : decode c_Do_pass 4 = .ok (.iload_n 1, 1) := by decide +kernel
theorem d_Do_pass_5 : decode c_Do_pass 5 = .ok (.dup2, 1) := by decide +kernel
theorem d_Do_pass_6 : decode c_Do_pass 6 = .ok (.iaload, 1) := by decide +kernel
theorem d_Do_pass_7 : decode c_Do_pass 7 = .ok (.iconst 1, 1) := by decide +kernel
theorem d_Do_pass_8 : decode c_Do_pass 8 = .ok (.iadd, 1) := by decide +kernel
theorem d_Do_pass_9 : decode c_Do_pass 9 = .ok (.iastore, 1) := by decide +kernel
theorem d_Do_pass_10 : decode c_Do_pass 10 = .ok (.aload_n 0, 1) := by decide +kernel
theorem d_Do_pass_11 : decode c_Do_pass 11 = .ok (.getfield 9, 3) := by decide +kernel
theorem d_Do_pass_14 : decode c_Do_pass 14 = .ok (.iload_n 1, 1) := by decide +kernel
theorem d_Do_pass_15 : decode c_Do_pass 15 = .ok (.iaload, 1) := by decide +kernel
theorem d_Do_pass_16 : decode c_Do_pass 16 = .ok (.iload_n 2, 1) := by decide +kernel
theorem d_Do_pass_17 : decode c_Do_pass 17 = .ok (.if_icmp .ne 16, 3) := by decide +kernel
theorem d_Do_pass_20 : decode c_Do_pass 20 = .ok (.aload_n 0, 1) := by decide +kernel
theorem d_Do_pass_21 : decode c_Do_pass 21 = .ok (.getfield 21, 3) := by decide +kernel
theorem d_Do_pass_24 : decode c_Do_pass 24 = .ok (.iload_n 1, 1) := by decide +kernel
theorem d_Do_pass_25 : decode c_Do_pass 25 = .ok (.dup2, 1) := by decide +kernel
theorem d_Do_pass_26 : decode c_Do_pass 26 = .ok (.iaload, 1) := by decide +kernel
theorem d_Do_pass_27 : decode c_Do_pass 27 = .ok (.iconst 1, 1) := by decide +kernel
theorem d_Do_pass_28 : decode c_Do_pass 28 = .ok (.iadd, 1) := by decide +kernel
theorem d_Do_pass_29 : decode c_Do_pass 29 = .ok (.iastore, 1) := by decide +kernel
theorem d_Do_pass_30 : decode c_Do_pass 30 = .ok (.goto 13, 3) := by decide +kernel
theorem d_Do_pass_33 : decode c_Do_pass 33 = .ok (.aload_n 0, 1) := by decide +kernel
theorem d_Do_pass_34 : decode c_Do_pass 34 = .ok (.getfield 24, 3) := by decide +kernel
theorem d_Do_pass_37 : decode c_Do_pass 37 = .ok (.iload_n 1, 1) := by decide +kernel
theorem d_Do_pass_38 : decode c_Do_pass 38 = .ok (.dup2, 1) := by decide +kernel
theorem d_Do_pass_39 : decode c_Do_pass 39 = .ok (.iaload, 1) := by decide +kernel
theorem d_Do_pass_40 : decode c_Do_pass 40 = .ok (.iconst 1, 1) := by decide +kernel
theorem d_Do_pass_41 : decode c_Do_pass 41 = .ok (.iadd, 1) := by decide +kernel
theorem d_Do_pass_42 : decode c_Do_pass 42 = .ok (.iastore, 1) := by decide +kernel
theorem d_Do_pass_43 : decode c_Do_pass 43 = .ok (.return_, 1) := by decide +kernel
end
section
theorem d_Pe_init_0 : decode c_Pe_init 0 = .ok (.aload_n 0, 1) := by decide +kernel
theorem d_Pe_init_1 : decode c_Pe_init 1 = .ok (.invokespecial 3, 3) := by decide +kernel
theorem d_Pe_init_4 : decode c_Pe_init 4 = .ok (.aload_n 0, 1) := by decide +kernel
theorem d_Pe_init_5 : decode c_Pe_init 5 = .ok (.bipush 60, 2) := by decide +kernel
theorem d_Pe_init_7 : decode c_Pe_init 7 = .ok (.newarray .int, 2) := by decide +kernel
theorem d_Pe_init_9 : decode c_Pe_init 9 = .ok (.putfield 9, 3) := by decide +kernel
theorem d_Pe_init_12 : decode c_Pe_init 12 = .ok (.aload_n 0, 1) := by decide +kernel
theorem d_Pe_init_13 : decode c_Pe_init 13 = .ok (.bipush 60, 2) := by decide +kernel
theorem d_Pe_init_15 : decode c_Pe_init 15 = .ok (.newarray .int, 2) := by decide +kernel
theorem d_Pe_init_17 : decode c_Pe_init 17 = .ok (.putfield 15, 3) := by decide +kernel
theorem d_Pe_init_20 : decode c_Pe_init 20 = .ok (.aload_n 0, 1) := by decide +kernel
theorem d_Pe_init_21 : decode c_Pe_init 21 = .ok (.bipush 60, 2) := by decide +kernel
theorem d_Pe_init_23 : decode c_Pe_init 23 = .ok (.newarray .int, 2) := by decide +kernel
theorem d_Pe_init_25 : decode c_Pe_init 25 = .ok (.putfield 18, 3) := by decide +kernel
theorem d_Pe_init_28 : decode c_Pe_init 28 = .ok (.aload_n 0, 1) := by decide +kernel
theorem d_Pe_init_29 : decode c_Pe_init 29 = .ok (.bipush 60, 2) := by decide +kernel
theorem d_Pe_init_31 : decode c_Pe_init 31 = .ok (.newarray .int, 2) := by decide +kernel
theorem d_Pe_init_33 : decode c_Pe_init 33 = .ok (.putfield 21, 3) := by decide +kernel
theorem d_Pe_init_36 : decode c_Pe_init 36 = .ok (.aload_n 0, 1) := by decide +kernel
theorem d_Pe_init_37 : decode c_Pe_init 37 = .ok (.bipush 60, 2) := by decide +kernel
theorem d_Pe_init_39 : decode c_Pe_init 39 = .ok (.newarray .int, 2) := by decide +kernel
theorem d_Pe_init_41 : decode c_Pe_init 41 = .ok (.putfield 24, 3) := by decide +kernel
theorem d_Pe_init_44 : decode c_Pe_init 44 = .ok (.aload_n 0, 1) := by decide +kernel
theorem d_Pe_init_45 : decode c_Pe_init 45 = .ok (.bipush 60, 2) := by decide +kernel
theorem d_Pe_init_47 : decode c_Pe_init 47 = .ok (.newarray .int, 2) := by decide +kernel
theorem d_Pe_init_49 : decode c_Pe_init 49 = .ok (.putfield 27, 3) := by decide +kernel
theorem d_Pe_init_52 : decode c_Pe_init 52 = .ok (.aload_n 0, 1) := by decide +kernel
theorem d_Pe_init_53 : decode c_Pe_init 53 = .ok (.bipush 60, 2) := by decide +kernel
theorem d_Pe_init_55 : decode c_Pe_init 55 = .ok (.newarray .int, 2) := by decide +kernel
theorem d_Pe_init_57 : decode c_Pe_init 57 = .ok (.putfield 30, 3) := by decide +kernel
theorem d_Pe_init_60 : decode c_Pe_init 60 = .ok (.aload_n 0, 1) := by decide +kernel
theorem d_Pe_init_61 : decode c_Pe_init 61 = .ok (.lload_n 1, 1) := by decide +kernel
theorem d_Pe_init_62 : decode c_Pe_init 62 = .ok (.putfield 33, 3) := by decide +kernel
theorem d_Pe_init_65 : decode c_Pe_init 65 = .ok (.return_, 1) := by decide +kernel
theorem d_Pe_add_0 : decode c_Pe_add 0 = .ok (.aload_n 0, 1) := by decide +kernel
theorem d_Pe_add_1 : decode c_Pe_add 1 = .ok (.getfield 37, 3) := by decide +kernel
theorem d_Pe_add_4 : decode c_Pe_add 4 = .ok (.istore_n 3, 1) := by decide +kernel
theorem d_Pe_add_5 : decode c_Pe_add 5 = .ok (.iload_n 3, 1) := by decide +kernel
theorem d_Pe_add_6 : decode c_Pe_add 6 = .ok (.ifCond .le 35, 3) := by decide +kernel
theorem d_Pe_add_9 : decode c_Pe_add 9 = .ok (.aload_n 0, 1) := by decide +kernel
theorem d_Pe_add_10 : decode c_Pe_add 10 = .ok (.getfield 9, 3) := by decide +kernel
theorem d_Pe_add_13 : decode c_Pe_add 13 = .ok (.iload_n 3, 1) := by decide +kernel
theorem d_Pe_add_14 : decode c_Pe_add 14 = .ok (.iconst 1, 1) := by decide +kernel
theorem d_Pe_add_15 : decode c_Pe_add 15 = .ok (.isub, 1) := by decide +kernel
theorem d_Pe_add_16 : decode c_Pe_add 16 = .ok (.iaload, 1) := by decide +kernel
theorem d_Pe_add_17 : decode c_Pe_add 17 = .ok (.iload_n 1, 1) := by decide +kernel
theorem d_Pe_add_18 : decode c_Pe_add 18 = .ok (.if_icmp .le 23, 3) := by decide +kernel
theorem d_Pe_add_21 : decode c_Pe_add 21 = .ok (.iinc 3 (-1), 3) := by decide +kernel
theorem d_Pe_add_24 : decode c_Pe_add 24 = .ok (.aload_n 0, 1) := by decide +kernel
theorem d_Pe_add_25 : decode c_Pe_add 25 = .ok (.getfield 9, 3) := by decide +kernel
theorem d_Pe_add_28 : decode c_Pe_add 28 = .ok (.iload_n 3, 1) := by decide +kernel
theorem d_Pe_add_29 : decode c_Pe_add 29 = .ok (.iload_n 2, 1) := by decide +kernel
theorem d_Pe_add_30 : decode c_Pe_add 30 = .ok (.iadd, 1) := by decide +kernel
theorem d_Pe_add_31 : decode c_Pe_add 31 = .ok (.aload_n 0, 1) := by decide +kernel
theorem d_Pe_add_32 : decode c_Pe_add 32 = .ok (.getfield 9, 3) := by decide +kernel
theorem d_Pe_add_35 : decode c_Pe_add 35 = .ok (.iload_n 3, 1) := by decide +kernel
theorem d_Pe_add_36 : decode c_Pe_add 36 = .ok (.iaload, 1) := by decide +kernel
theorem d_Pe_add_37 : decode c_Pe_add 37 = .ok (.iastore, 1) := by decide +kernel
theorem d_Pe_add_38 : decode c_Pe_add 38 = .ok (.goto (-33), 3) := by decide +kernel
theorem d_Pe_add_41 : decode c_Pe_add 41 = .ok (.iconst 0, 1) := by decide +kernel
theorem d_Pe_add_42 : decode c_Pe_add 42 = .ok (.istore 4, 2) := by decide +kernel
theorem d_Pe_add_44 : decode c_Pe_add 44 = .ok (.iload 4, 2) := by decide +kernel
theorem d_Pe_add_46 : decode c_Pe_add 46 = .ok (.iload_n 2, 1) := by decide +kernel
theorem d_Pe_add_47 : decode c_Pe_add 47 = .ok (.if_icmp .ge 19, 3) := by decide +kernel
theorem d_Pe_add_50 : decode c_Pe_add 50 = .ok (.aload_n 0, 1) := by decide +kernel
theorem d_Pe_add_51 : decode c_Pe_add 51 = .ok (.getfield 9, 3) := by decide +kernel
theorem d_Pe_add_54 : decode c_Pe_add 54 = .ok (.iload_n 3, 1) := by decide +kernel
theorem d_Pe_add_55 : decode c_Pe_add 55 = .ok (.iload 4, 2) := by decide +kernel
theorem d_Pe_add_57 : decode c_Pe_add 57 = .ok (.iadd, 1) := by decide +kernel
theorem d_Pe_add_58 : decode c_Pe_add 58 = .ok (.iload_n 1, 1) := by decide +kernel
theorem d_Pe_add_59 : decode c_Pe_add 59 = .ok (.iastore, 1) := by decide +kernel
theorem d_Pe_add_60 : decode c_Pe_add 60 = .ok (.iinc 4 1, 3) := by decide +kernel
theorem d_Pe_add_63 : decode c_Pe_add 63 = .ok (.goto (-19), 3) := by decide +kernel
theorem d_Pe_add_66 : decode c_Pe_add 66 = .ok (.aload_n 0, 1) := by decide +kernel
theorem d_Pe_add_67 : decode c_Pe_add 67 = .ok (.dup, 1) := by decide +kernel
theorem d_Pe_add_68 : decode c_Pe_add 68 = .ok (.getfield 37, 3) := by decide +kernel
theorem d_Pe_add_71 : decode c_Pe_add 71 = .ok (.iload_n 2, 1) := by decide +kernel
theorem d_Pe_add_72 : decode c_Pe_add 72 = .ok (.iadd, 1) := by decide +kernel
theorem d_Pe_add_73 : decode c_Pe_add 73 = .ok (.putfield 37, 3) := by decide +kernel
theorem d_Pe_add_76 : decode c_Pe_add 76 = .ok (.return_, 1) := by decide +kernel
theorem d_Pe_plan_0 : decode c_Pe_plan 0 = .ok (.iconst 0, 1) := by decide +kernel
theorem d_Pe_plan_1 : decode c_Pe_plan 1 = .ok (.istore_n 2, 1) := by decide +kernel
theorem d_Pe_plan_2 : decode c_Pe_plan 2 = .ok (.iload_n 2, 1) := by decide +kernel
theorem d_Pe_plan_3 : decode c_Pe_plan 3 = .ok (.aload_n 0, 1) := by decide +kernel
theorem d_Pe_plan_4 : decode c_Pe_plan 4 = .ok (.getfield 37, 3) := by decide +kernel
theorem d_Pe_plan_7 : decode c_Pe_plan 7 = .ok (.if_icmp .ge 109, 3) := by decide +kernel
theorem d_Pe_plan_10 : decode c_Pe_plan 10 = .ok (.aload_n 0, 1) := by decide +kernel
theorem d_Pe_plan_11 : decode c_Pe_plan 11 = .ok (.getfield 15, 3) := by decide +kernel
theorem d_Pe_plan_14 : decode c_Pe_plan 14 = .ok (.iload_n 2, 1) := by decide +kernel
theorem d_Pe_plan_15 : decode c_Pe_plan 15 = .ok (.aload_n 0, 1) := by decide +kernel
theorem d_Pe_plan_16 : decode c_Pe_plan 16 = .ok (.iload_n 2, 1) := by decide +kernel
theorem d_Pe_plan_17 : decode c_Pe_plan 17 = .ok (.iconst 0, 1) := by decide +kernel
theorem d_Pe_plan_18 : decode c_Pe_plan 18 = .ok (.iload_n 1, 1) := by decide +kernel
theorem d_Pe_plan_19 : decode c_Pe_plan 19 = .ok (.invokevirtual 41, 3) := by decide +kernel
theorem d_Pe_plan_22 : decode c_Pe_plan 22 = .ok (.iastore, 1) := by decide +kernel
theorem d_Pe_plan_23 : decode c_Pe_plan 23 = .ok (.aload_n 0, 1) := by decide +kernel
theorem d_Pe_plan_24 : decode c_Pe_plan 24 = .ok (.getfield 18, 3) := by decide +kernel
theorem d_Pe_plan_27 : decode c_Pe_plan 27 = .ok (.iload_n 2, 1) := by decide +kernel
theorem d_Pe_plan_28 : decode c_Pe_plan 28 = .ok (.aload_n 0, 1) := by decide +kernel
theorem d_Pe_plan_29 : decode c_Pe_plan 29 = .ok (.getfield 9, 3) := by decide +kernel
theorem d_Pe_plan_32 : decode c_Pe_plan 32 = .ok (.iload_n 2, 1) := by decide +kernel
theorem d_Pe_plan_33 : decode c_Pe_plan 33 = .ok (.iaload, 1) := by decide +kernel
theorem d_Pe_plan_34 : decode c_Pe_plan 34 = .ok (.bipush 30, 2) := by decide +kernel
theorem d_Pe_plan_36 : decode c_Pe_plan 36 = .ok (.iadd, 1) := by decide +kernel
theorem d_Pe_plan_37 : decode c_Pe_plan 37 = .ok (.aload_n 0, 1) := by decide +kernel
theorem d_Pe_plan_38 : decode c_Pe_plan 38 = .ok (.iload_n 2, 1) := by decide +kernel
theorem d_Pe_plan_39 : decode c_Pe_plan 39 = .ok (.iconst 1, 1) := by decide +kernel
theorem d_Pe_plan_40 : decode c_Pe_plan 40 = .ok (.bipush 90, 2) := by decide +kernel
theorem d_Pe_plan_42 : decode c_Pe_plan 42 = .ok (.invokevirtual 41, 3) := by decide +kernel
theorem d_Pe_plan_45 : decode c_Pe_plan 45 = .ok (.iadd, 1) := by decide +kernel
theorem d_Pe_plan_46 : decode c_Pe_plan 46 = .ok (.iastore, 1) := by decide +kernel
theorem d_Pe_plan_47 : decode c_Pe_plan 47 = .ok (.aload_n 0, 1) := by decide +kernel
theorem d_Pe_plan_48 : decode c_Pe_plan 48 = .ok (.getfield 21, 3) := by decide +kernel
theorem d_Pe_plan_51 : decode c_Pe_plan 51 = .ok (.iload_n 2, 1) := by decide +kernel
theorem d_Pe_plan_52 : decode c_Pe_plan 52 = .ok (.aload_n 0, 1) := by decide +kernel
theorem d_Pe_plan_53 : decode c_Pe_plan 53 = .ok (.getfield 18, 3) := by decide +kernel
theorem d_Pe_plan_56 : decode c_Pe_plan 56 = .ok (.iload_n 2, 1) := by decide +kernel
theorem d_Pe_plan_57 : decode c_Pe_plan 57 = .ok (.iaload, 1) := by decide +kernel
theorem d_Pe_plan_58 : decode c_Pe_plan 58 = .ok (.bipush 20, 2) := by decide +kernel
theorem d_Pe_plan_60 : decode c_Pe_plan 60 = .ok (.iadd, 1) := by decide +kernel
theorem d_Pe_plan_61 : decode c_Pe_plan 61 = .ok (.aload_n 0, 1) := by decide +kernel
theorem d_Pe_plan_62 : decode c_Pe_plan 62 = .ok (.iload_n 2, 1) := by decide +kernel
theorem d_Pe_plan_63 : decode c_Pe_plan 63 = .ok (.iconst 2, 1) := by decide +kernel
theorem d_Pe_plan_64 : decode c_Pe_plan 64 = .ok (.bipush 20, 2) := by decide +kernel
theorem d_Pe_plan_66 : decode c_Pe_plan 66 = .ok (.invokevirtual 41, 3) := by decide +kernel
theorem d_Pe_plan_69 : decode c_Pe_plan 69 = .ok (.iadd, 1) := by decide +kernel
theorem d_Pe_plan_70 : decode c_Pe_plan 70 = .ok (.iastore, 1) := by decide +kernel
theorem d_Pe_plan_71 : decode c_Pe_plan 71 = .ok (.aload_n 0, 1) := by decide +kernel
theorem d_Pe_plan_72 : decode c_Pe_plan 72 = .ok (.getfield 24, 3) := by decide +kernel
theorem d_Pe_plan_75 : decode c_Pe_plan 75 = .ok (.iload_n 2, 1) := by decide +kernel
theorem d_Pe_plan_76 : decode c_Pe_plan 76 = .ok (.aload_n 0, 1) := by decide +kernel
theorem d_Pe_plan_77 : decode c_Pe_plan 77 = .ok (.iload_n 2, 1) := by decide +kernel
theorem d_Pe_plan_78 : decode c_Pe_plan 78 = .ok (.iconst 3, 1) := by decide +kernel
theorem d_Pe_plan_79 : decode c_Pe_plan 79 = .ok (.iload_n 1, 1) := by decide +kernel
theorem d_Pe_plan_80 : decode c_Pe_plan 80 = .ok (.invokevirtual 41, 3) := by decide +kernel
theorem d_Pe_plan_83 : decode c_Pe_plan 83 = .ok (.iastore, 1) := by decide +kernel
theorem d_Pe_plan_84 : decode c_Pe_plan 84 = .ok (.aload_n 0, 1) := by decide +kernel
theorem d_Pe_plan_85 : decode c_Pe_plan 85 = .ok (.getfield 27, 3) := by decide +kernel
theorem d_Pe_plan_88 : decode c_Pe_plan 88 = .ok (.iload_n 2, 1) := by decide +kernel
theorem d_Pe_plan_89 : decode c_Pe_plan 89 = .ok (.aload_n 0, 1) := by decide +kernel
theorem d_Pe_plan_90 : decode c_Pe_plan 90 = .ok (.getfield 9, 3) := by decide +kernel
theorem d_Pe_plan_93 : decode c_Pe_plan 93 = .ok (.iload_n 2, 1) := by decide +kernel
theorem d_Pe_plan_94 : decode c_Pe_plan 94 = .ok (.iaload, 1) := by decide +kernel
theorem d_Pe_plan_95 : decode c_Pe_plan 95 = .ok (.sipush 200, 3) := by decide +kernel
theorem d_Pe_plan_98 : decode c_Pe_plan 98 = .ok (.iadd, 1) := by decide +kernel
theorem d_Pe_plan_99 : decode c_Pe_plan 99 = .ok (.aload_n 0, 1) := by decide +kernel
theorem d_Pe_plan_100 : decode c_Pe_plan 100 = .ok (.iload_n 2, 1) := by decide +kernel
theorem d_Pe_plan_101 : decode c_Pe_plan 101 = .ok (.iconst 4, 1) := by decide +kernel
theorem d_Pe_plan_102 : decode c_Pe_plan 102 = .ok (.sipush 200, 3) := by decide +kernel
theorem d_Pe_plan_105 : decode c_Pe_plan 105 = .ok (.invokevirtual 41, 3) := by decide +kernel
theorem d_Pe_plan_108 : decode c_Pe_plan 108 = .ok (.iadd, 1) := by decide +kernel
theorem d_Pe_plan_109 : decode c_Pe_plan 109 = .ok (.iastore, 1) := by decide +kernel
theorem d_Pe_plan_110 : decode c_Pe_plan 110 = .ok (.iinc 2 1, 3) := by decide +kernel
theorem d_Pe_plan_113 : decode c_Pe_plan 113 = .ok (.goto (-111), 3) := by decide +kernel
theorem d_Pe_plan_116 : decode c_Pe_plan 116 = .ok (.return_, 1) := by decide +kernel
theorem d_Pe_drawn_0 : decode c_Pe_drawn 0 = .ok (.iload_n 3, 1) := by decide +kernel
theorem d_Pe_drawn_1 : decode c_Pe_drawn 1 = .ok (.iconst 1, 1) := by decide +kernel
theorem d_Pe_drawn_2 : decode c_Pe_drawn 2 = .ok (.if_icmp .ge 5, 3) := by decide +kernel
theorem d_Pe_drawn_5 : decode c_Pe_drawn 5 = .ok (.iconst 0, 1) := by decide +kernel
theorem d_Pe_drawn_6 : decode c_Pe_drawn 6 = .ok (.ireturn, 1) := by decide +kernel
theorem d_Pe_drawn_7 : decode c_Pe_drawn 7 = .ok (.aload_n 0, 1) := by decide +kernel
theorem d_Pe_drawn_8 : decode c_Pe_drawn 8 = .ok (.getfield 33, 3) := by decide +kernel
theorem d_Pe_drawn_11 : decode c_Pe_drawn 11 = .ok (.ldc2_w 45, 3) := by decide +kernel
theorem d_Pe_drawn_14 : decode c_Pe_drawn 14 = .ok (.bipush 8, 2) := by decide +kernel
theorem d_Pe_drawn_16 : decode c_Pe_drawn 16 = .ok (.iload_n 1, 1) := by decide +kernel
theorem d_Pe_drawn_17 : decode c_Pe_drawn 17 = .ok (.imul, 1) := by decide +kernel
theorem d_Pe_drawn_18 : decode c_Pe_drawn 18 = .ok (.iload_n 2, 1) := by decide +kernel
theorem d_Pe_drawn_19 : decode c_Pe_drawn 19 = .ok (.iadd, 1) := by decide +kernel
theorem d_Pe_drawn_20 : decode c_Pe_drawn 20 = .ok (.iconst 1, 1) := by decide +kernel
theorem d_Pe_drawn_21 : decode c_Pe_drawn 21 = .ok (.iadd, 1) := by decide +kernel
theorem d_Pe_drawn_22 : decode c_Pe_drawn 22 = .ok (.i2l, 1) := by decide +kernel
theorem d_Pe_drawn_23 : decode c_Pe_drawn 23 = .ok (.lmul, 1) := by decide +kernel
theorem d_Pe_drawn_24 : decode c_Pe_drawn 24 = .ok (.ladd, 1) := by decide +kernel
theorem d_Pe_drawn_25 : decode c_Pe_drawn 25 = .ok (.lstore 4, 2) := by decide +kernel
theorem d_Pe_drawn_27 : decode c_Pe_drawn 27 = .ok (.lload 4, 2) := by decide +kernel
theorem d_Pe_drawn_29 : decode c_Pe_drawn 29 = .ok (.lload 4, 2) := by decide +kernel
theorem d_Pe_drawn_31 : decode c_Pe_drawn 31 = .ok (.bipush 30, 2) := by decide +kernel
theorem d_Pe_drawn_33 : decode c_Pe_drawn 33 = .ok (.lushr, 1) := by decide +kernel
theorem d_Pe_drawn_34 : decode c_Pe_drawn 34 = .ok (.lxor, 1) := by decide +kernel
theorem d_Pe_drawn_35 : decode c_Pe_drawn 35 = .ok (.ldc2_w 47, 3) := by decide +kernel
theorem d_Pe_drawn_38 : decode c_Pe_drawn 38 = .ok (.lmul, 1) := by decide +kernel
theorem d_Pe_drawn_39 : decode c_Pe_drawn 39 = .ok (.lstore 4, 2) := by decide +kernel
theorem d_Pe_drawn_41 : decode c_Pe_drawn 41 = .ok (.lload 4, 2) := by decide +kernel
theorem d_Pe_drawn_43 : decode c_Pe_drawn 43 = .ok (.lload 4, 2) := by decide +kernel
theorem d_Pe_drawn_45 : decode c_Pe_drawn 45 = .ok (.bipush 27, 2) := by decide +kernel
theorem d_Pe_drawn_47 : decode c_Pe_drawn 47 = .ok (.lushr, 1) := by decide +kernel
theorem d_Pe_drawn_48 : decode c_Pe_drawn 48 = .ok (.lxor, 1) := by decide +kernel
theorem d_Pe_drawn_49 : decode c_Pe_drawn 49 = .ok (.ldc2_w 49, 3) := by decide +kernel
theorem d_Pe_drawn_52 : decode c_Pe_drawn 52 = .ok (.lmul, 1) := by decide +kernel
theorem d_Pe_drawn_53 : decode c_Pe_drawn 53 = .ok (.lstore 4, 2) := by decide +kernel
theorem d_Pe_drawn_55 : decode c_Pe_drawn 55 = .ok (.lload 4, 2) := by decide +kernel
theorem d_Pe_drawn_57 : decode c_Pe_drawn 57 = .ok (.lload 4, 2) := by decide +kernel
theorem d_Pe_drawn_59 : decode c_Pe_drawn 59 = .ok (.bipush 31, 2) := by decide +kernel
theorem d_Pe_drawn_61 : decode c_Pe_drawn 61 = .ok (.lushr, 1) := by decide +kernel
theorem d_Pe_drawn_62 : decode c_Pe_drawn 62 = .ok (.lxor, 1) := by decide +kernel
theorem d_Pe_drawn_63 : decode c_Pe_drawn 63 = .ok (.lstore 4, 2) := by decide +kernel
theorem d_Pe_drawn_65 : decode c_Pe_drawn 65 = .ok (.lload 4, 2) := by decide +kernel
theorem d_Pe_drawn_67 : decode c_Pe_drawn 67 = .ok (.iconst 1, 1) := by decide +kernel
theorem d_Pe_drawn_68 : decode c_Pe_drawn 68 = .ok (.lushr, 1) := by decide +kernel
theorem d_Pe_drawn_69 : decode c_Pe_drawn 69 = .ok (.iload_n 3, 1) := by decide +kernel
theorem d_Pe_drawn_70 : decode c_Pe_drawn 70 = .ok (.i2l, 1) := by decide +kernel
theorem d_Pe_drawn_71 : decode c_Pe_drawn 71 = .ok (.lrem, 1) := by decide +kernel
theorem d_Pe_drawn_72 : decode c_Pe_drawn 72 = .ok (.l2i, 1) := by decide +kernel
theorem d_Pe_drawn_73 : decode c_Pe_drawn 73 = .ok (.ireturn, 1) := by decide +kernel
theorem d_Pe_wants_0 : decode c_Pe_wants 0 = .ok (.iload_n 2, 1) := by decide +kernel
theorem d_Pe_wants_1 : decode c_Pe_wants 1 = .ok (.aload_n 0, 1) := by decide +kernel
theorem d_Pe_wants_2 : decode c_Pe_wants 2 = .ok (.getfield 27, 3) := by decide +kernel
theorem d_Pe_wants_5 : decode c_Pe_wants 5 = .ok (.iload_n 1, 1) := by decide +kernel
theorem d_Pe_wants_6 : decode c_Pe_wants 6 = .ok (.iaload, 1) := by decide +kernel
theorem d_Pe_wants_7 : decode c_Pe_wants 7 = .ok (.if_icmp .lt 5, 3) := by decide +kernel
theorem d_Pe_wants_10 : decode c_Pe_wants 10 = .ok (.iconst (-1), 1) := by decide +kernel
theorem d_Pe_wants_11 : decode c_Pe_wants 11 = .ok (.ireturn, 1) := by decide +kernel
theorem d_Pe_wants_12 : decode c_Pe_wants 12 = .ok (.iload_n 2, 1) := by decide +kernel
theorem d_Pe_wants_13 : decode c_Pe_wants 13 = .ok (.aload_n 0, 1) := by decide +kernel
theorem d_Pe_wants_14 : decode c_Pe_wants 14 = .ok (.getfield 18, 3) := by decide +kernel
theorem d_Pe_wants_17 : decode c_Pe_wants 17 = .ok (.iload_n 1, 1) := by decide +kernel
theorem d_Pe_wants_18 : decode c_Pe_wants 18 = .ok (.iaload, 1) := by decide +kernel
theorem d_Pe_wants_19 : decode c_Pe_wants 19 = .ok (.if_icmp .lt 22, 3) := by decide +kernel
theorem d_Pe_wants_22 : decode c_Pe_wants 22 = .ok (.iload_n 2, 1) := by decide +kernel
theorem d_Pe_wants_23 : decode c_Pe_wants 23 = .ok (.aload_n 0, 1) := by decide +kernel
theorem d_Pe_wants_24 : decode c_Pe_wants 24 = .ok (.getfield 21, 3) := by decide +kernel
theorem d_Pe_wants_27 : decode c_Pe_wants 27 = .ok (.iload_n 1, 1) := by decide +kernel
theorem d_Pe_wants_28 : decode c_Pe_wants 28 = .ok (.iaload, 1) := by decide +kernel
theorem d_Pe_wants_29 : decode c_Pe_wants 29 = .ok (.if_icmp .ge 12, 3) := by decide +kernel
theorem d_Pe_wants_32 : decode c_Pe_wants 32 = .ok (.aload_n 0, 1) := by decide +kernel
theorem d_Pe_wants_33 : decode c_Pe_wants 33 = .ok (.getfield 24, 3) := by decide +kernel
theorem d_Pe_wants_36 : decode c_Pe_wants 36 = .ok (.iload_n 1, 1) := by decide +kernel
theorem d_Pe_wants_37 : decode c_Pe_wants 37 = .ok (.iaload, 1) := by decide +kernel
theorem d_Pe_wants_38 : decode c_Pe_wants 38 = .ok (.goto 9, 3) := by decide +kernel
theorem d_Pe_wants_41 : decode c_Pe_wants 41 = .ok (.aload_n 0, 1) := by decide +kernel
theorem d_Pe_wants_42 : decode c_Pe_wants 42 = .ok (.getfield 15, 3) := by decide +kernel
theorem d_Pe_wants_45 : decode c_Pe_wants 45 = .ok (.iload_n 1, 1) := by decide +kernel
theorem d_Pe_wants_46 : decode c_Pe_wants 46 = .ok (.iaload, 1) := by decide +kernel
theorem d_Pe_wants_47 : decode c_Pe_wants 47 = .ok (.ireturn, 1) := by decide +kernel
end
section
theorem d_Ro_init_0 : decode c_Ro_init 0 = .ok (.aload_n 0, 1) := by decide +kernel
theorem d_Ro_init_1 : decode c_Ro_init 1 = .ok (.invokespecial 3, 3) := by decide +kernel
theorem d_Ro_init_4 : decode c_Ro_init 4 = .ok (.aload_n 0, 1) := by decide +kernel
theorem d_Ro_init_5 : decode c_Ro_init 5 = .ok (.bipush 12, 2) := by decide +kernel
theorem d_Ro_init_7 : decode c_Ro_init 7 = .ok (.newarray .int, 2) := by decide +kernel
theorem d_Ro_init_9 : decode c_Ro_init 9 = .ok (.putfield 9, 3) := by decide +kernel
theorem d_Ro_init_12 : decode c_Ro_init 12 = .ok (.aload_n 0, 1) := by decide +kernel
theorem d_Ro_init_13 : decode c_Ro_init 13 = .ok (.bipush 12, 2) := by decide +kernel
theorem d_Ro_init_15 : decode c_Ro_init 15 = .ok (.newarray .int, 2) := by decide +kernel
theorem d_Ro_init_17 : decode c_Ro_init 17 = .ok (.putfield 15, 3) := by decide +kernel
theorem d_Ro_init_20 : decode c_Ro_init 20 = .ok (.aload_n 0, 1) := by decide +kernel
theorem d_Ro_init_21 : decode c_Ro_init 21 = .ok (.bipush 12, 2) := by decide +kernel
theorem d_Ro_init_23 : decode c_Ro_init 23 = .ok (.newarray .int, 2) := by decide +kernel
theorem d_Ro_init_25 : decode c_Ro_init 25 = .ok (.putfield 18, 3) := by decide +kernel
theorem d_Ro_init_28 : decode c_Ro_init 28 = .ok (.aload_n 0, 1) := by decide +kernel
theorem d_Ro_init_29 : decode c_Ro_init 29 = .ok (.bipush 12, 2) := by decide +kernel
theorem d_Ro_init_31 : decode c_Ro_init 31 = .ok (.newarray .int, 2) := by decide +kernel
theorem d_Ro_init_33 : decode c_Ro_init 33 = .ok (.putfield 21, 3) := by decide +kernel
theorem d_Ro_init_36 : decode c_Ro_init 36 = .ok (.return_, 1) := by decide +kernel
theorem d_Ro_add_0 : decode c_Ro_add 0 = .ok (.aload_n 0, 1) := by decide +kernel
theorem d_Ro_add_1 : decode c_Ro_add 1 = .ok (.getfield 9, 3) := by decide +kernel
theorem d_Ro_add_4 : decode c_Ro_add 4 = .ok (.aload_n 0, 1) := by decide +kernel
theorem d_Ro_add_5 : decode c_Ro_add 5 = .ok (.getfield 24, 3) := by decide +kernel
theorem d_Ro_add_8 : decode c_Ro_add 8 = .ok (.iload_n 1, 1) := by decide +kernel
theorem d_Ro_add_9 : decode c_Ro_add 9 = .ok (.iastore, 1) := by decide +kernel
theorem d_Ro_add_10 : decode c_Ro_add 10 = .ok (.aload_n 0, 1) := by decide +kernel
theorem d_Ro_add_11 : decode c_Ro_add 11 = .ok (.dup, 1) := by decide +kernel
theorem d_Ro_add_12 : decode c_Ro_add 12 = .ok (.getfield 24, 3) := by decide +kernel
theorem d_Ro_add_15 : decode c_Ro_add 15 = .ok (.iconst 1, 1) := by decide +kernel
theorem d_Ro_add_16 : decode c_Ro_add 16 = .ok (.iadd, 1) := by decide +kernel
theorem d_Ro_add_17 : decode c_Ro_add 17 = .ok (.putfield 24, 3) := by decide +kernel
theorem d_Ro_add_20 : decode c_Ro_add 20 = .ok (.aload_n 0, 1) := by decide +kernel
theorem d_Ro_add_21 : decode c_Ro_add 21 = .ok (.getfield 24, 3) := by decide +kernel
theorem d_Ro_add_24 : decode c_Ro_add 24 = .ok (.iconst 1, 1) := by decide +kernel
theorem d_Ro_add_25 : decode c_Ro_add 25 = .ok (.isub, 1) := by decide +kernel
theorem d_Ro_add_26 : decode c_Ro_add 26 = .ok (.ireturn, 1) := by decide +kernel
theorem d_Ro_hasSpace_0 : decode c_Ro_hasSpace 0 = .ok (.aload_n 0, 1) := by decide +kernel
theorem d_Ro_hasSpace_1 : decode c_Ro_hasSpace 1 = .ok (.getfield 15, 3) := by decide +kernel
theorem d_Ro_hasSpace_4 : decode c_Ro_hasSpace 4 = .ok (.iload_n 1, 1) := by decide +kernel
theorem d_Ro_hasSpace_5 : decode c_Ro_hasSpace 5 = .ok (.iaload, 1) := by decide +kernel
theorem d_Ro_hasSpace_6 : decode c_Ro_hasSpace 6 = .ok (.aload_n 0, 1) := by decide +kernel
theorem d_Ro_hasSpace_7 : decode c_Ro_hasSpace 7 = .ok (.getfield 9, 3) := by decide +kernel
theorem d_Ro_hasSpace_10 : decode c_Ro_hasSpace 10 = .ok (.iload_n 1, 1) := by decide +kernel
theorem d_Ro_hasSpace_11 : decode c_Ro_hasSpace 11 = .ok (.iaload, 1) := by decide +kernel
theorem d_Ro_hasSpace_12 : decode c_Ro_hasSpace 12 = .ok (.if_icmp .ge 7, 3) := by decide +kernel
theorem d_Ro_hasSpace_15 : decode c_Ro_hasSpace 15 = .ok (.iconst 1, 1) := by decide +kernel
theorem d_Ro_hasSpace_16 : decode c_Ro_hasSpace 16 = .ok (.goto 4, 3) := by decide +kernel
theorem d_Ro_hasSpace_19 : decode c_Ro_hasSpace 19 = .ok (.iconst 0, 1) := by decide +kernel
theorem d_Ro_hasSpace_20 : decode c_Ro_hasSpace 20 = .ok (.ireturn, 1) := by decide +kernel
theorem d_Ro_endMinute_0 : decode c_Ro_endMinute 0 = .ok (.iconst 0, 1) := by decide +kernel
theorem d_Ro_endMinute_1 : decode c_Ro_endMinute 1 = .ok (.istore_n 1, 1) := by decide +kernel
theorem d_Ro_endMinute_2 : decode c_Ro_endMinute 2 = .ok (.iload_n 1, 1) := by decide +kernel
theorem d_Ro_endMinute_3 : decode c_Ro_endMinute 3 = .ok (.aload_n 0, 1) := by decide +kernel
theorem d_Ro_endMinute_4 : decode c_Ro_endMinute 4 = .ok (.getfield 24, 3) := by decide +kernel
theorem d_Ro_endMinute_7 : decode c_Ro_endMinute 7 = .ok (.if_icmp .ge 48, 3) := by decide +kernel
theorem d_Ro_endMinute_10 : decode c_Ro_endMinute 10 = .ok (.aload_n 0, 1) := by decide +kernel
theorem d_Ro_endMinute_11 : decode c_Ro_endMinute 11 = .ok (.getfield 18, 3) := by decide +kernel
theorem d_Ro_endMinute_14 : decode c_Ro_endMinute 14 = .ok (.iload_n 1, 1) := by decide +kernel
theorem d_Ro_endMinute_15 : decode c_Ro_endMinute 15 = .ok (.aload_n 0, 1) := by decide +kernel
theorem d_Ro_endMinute_16 : decode c_Ro_endMinute 16 = .ok (.getfield 18, 3) := by decide +kernel
theorem d_Ro_endMinute_19 : decode c_Ro_endMinute 19 = .ok (.iload_n 1, 1) := by decide +kernel
theorem d_Ro_endMinute_20 : decode c_Ro_endMinute 20 = .ok (.iaload, 1) := by decide +kernel
theorem d_Ro_endMinute_21 : decode c_Ro_endMinute 21 = .ok (.aload_n 0, 1) := by decide +kernel
theorem d_Ro_endMinute_22 : decode c_Ro_endMinute 22 = .ok (.getfield 15, 3) := by decide +kernel
theorem d_Ro_endMinute_25 : decode c_Ro_endMinute 25 = .ok (.iload_n 1, 1) := by decide +kernel
theorem d_Ro_endMinute_26 : decode c_Ro_endMinute 26 = .ok (.iaload, 1) := by decide +kernel
theorem d_Ro_endMinute_27 : decode c_Ro_endMinute 27 = .ok (.invokestatic 28, 3) := by decide +kernel
theorem d_Ro_endMinute_30 : decode c_Ro_endMinute 30 = .ok (.iastore, 1) := by decide +kernel
theorem d_Ro_endMinute_31 : decode c_Ro_endMinute 31 = .ok (.aload_n 0, 1) := by decide +kernel
theorem d_Ro_endMinute_32 : decode c_Ro_endMinute 32 = .ok (.iload_n 1, 1) := by decide +kernel
theorem d_Ro_endMinute_33 : decode c_Ro_endMinute 33 = .ok (.invokevirtual 34, 3) := by decide +kernel
theorem d_Ro_endMinute_36 : decode c_Ro_endMinute 36 = .ok (.ifCond .ne 13, 3) := by decide +kernel
theorem d_Ro_endMinute_39 : decode c_Ro_endMinute 39 = .ok (.aload_n 0, 1) := by decide +kernel
theorem d_Ro_endMinute_40 : decode c_Ro_endMinute 40 = .ok (.getfield 21, 3) := by decide +kernel
theorem d_Ro_endMinute_43 : decode c_Ro_endMinute 43 = .ok (.iload_n 1, 1) := by decide +kernel
theorem d_Ro_endMinute_44 : decode c_Ro_endMinute 44 = .ok (.dup2, 1) := by decide +kernel
theorem d_Ro_endMinute_45 : decode c_Ro_endMinute 45 = .ok (.iaload, 1) := by decide +kernel
theorem d_Ro_endMinute_46 : decode c_Ro_endMinute 46 = .ok (.iconst 1, 1) := by decide +kernel
theorem d_Ro_endMinute_47 : decode c_Ro_endMinute 47 = .ok (.iadd, 1) := by decide +kernel
theorem d_Ro_endMinute_48 : decode c_Ro_endMinute 48 = .ok (.iastore, 1) := by decide +kernel
theorem d_Ro_endMinute_49 : decode c_Ro_endMinute 49 = .ok (.iinc 1 1, 3) := by decide +kernel
theorem d_Ro_endMinute_52 : decode c_Ro_endMinute 52 = .ok (.goto (-50), 3) := by decide +kernel
theorem d_Ro_endMinute_55 : decode c_Ro_endMinute 55 = .ok (.return_, 1) := by decide +kernel
end
section
theorem d_Tr_init_0 : decode c_Tr_init 0 = .ok (.aload_n 0, 1) := by decide +kernel
theorem d_Tr_init_1 : decode c_Tr_init 1 = .ok (.invokespecial 3, 3) := by decide +kernel
theorem d_Tr_init_4 : decode c_Tr_init 4 = .ok (.aload_n 0, 1) := by decide +kernel
theorem d_Tr_init_5 : decode c_Tr_init 5 = .ok (.bipush 60, 2) := by decide +kernel
theorem d_Tr_init_7 : decode c_Tr_init 7 = .ok (.newarray .int, 2) := by decide +kernel
theorem d_Tr_init_9 : decode c_Tr_init 9 = .ok (.putfield 9, 3) := by decide +kernel
theorem d_Tr_init_12 : decode c_Tr_init 12 = .ok (.aload_n 0, 1) := by decide +kernel
theorem d_Tr_init_13 : decode c_Tr_init 13 = .ok (.sipush 2760, 3) := by decide +kernel
theorem d_Tr_init_16 : decode c_Tr_init 16 = .ok (.newarray .int, 2) := by decide +kernel
theorem d_Tr_init_18 : decode c_Tr_init 18 = .ok (.putfield 15, 3) := by decide +kernel
theorem d_Tr_init_21 : decode c_Tr_init 21 = .ok (.aload_n 0, 1) := by decide +kernel
theorem d_Tr_init_22 : decode c_Tr_init 22 = .ok (.sipush 2760, 3) := by decide +kernel
theorem d_Tr_init_25 : decode c_Tr_init 25 = .ok (.newarray .int, 2) := by decide +kernel
theorem d_Tr_init_27 : decode c_Tr_init 27 = .ok (.putfield 18, 3) := by decide +kernel
theorem d_Tr_init_30 : decode c_Tr_init 30 = .ok (.return_, 1) := by decide +kernel
theorem d_Tr_add_0 : decode c_Tr_add 0 = .ok (.aload_n 0, 1) := by decide +kernel
theorem d_Tr_add_1 : decode c_Tr_add 1 = .ok (.getfield 9, 3) := by decide +kernel
theorem d_Tr_add_4 : decode c_Tr_add 4 = .ok (.iload_n 1, 1) := by decide +kernel
theorem d_Tr_add_5 : decode c_Tr_add 5 = .ok (.iaload, 1) := by decide +kernel
theorem d_Tr_add_6 : decode c_Tr_add 6 = .ok (.bipush 46, 2) := by decide +kernel
theorem d_Tr_add_8 : decode c_Tr_add 8 = .ok (.if_icmp .lt 4, 3) := by decide +kernel
theorem d_Tr_add_11 : decode c_Tr_add 11 = .ok (.return_, 1) := by decide +kernel
theorem d_Tr_add_12 : decode c_Tr_add 12 = .ok (.iload_n 1, 1) := by decide +kernel
theorem d_Tr_add_13 : decode c_Tr_add 13 = .ok (.bipush 46, 2) := by decide +kernel
theorem d_Tr_add_15 : decode c_Tr_add 15 = .ok (.imul, 1) := by decide +kernel
theorem d_Tr_add_16 : decode c_Tr_add 16 = .ok (.aload_n 0, 1) := by decide +kernel
theorem d_Tr_add_17 : decode c_Tr_add 17 = .ok (.getfield 9, 3) := by decide +kernel
theorem d_Tr_add_20 : decode c_Tr_add 20 = .ok (.iload_n 1, 1) := by decide +kernel
theorem d_Tr_add_21 : decode c_Tr_add 21 = .ok (.iaload, 1) := by decide +kernel
theorem d_Tr_add_22 : decode c_Tr_add 22 = .ok (.iadd, 1) := by decide +kernel
theorem d_Tr_add_23 : decode c_Tr_add 23 = .ok (.istore 4, 2) := by decide +kernel
theorem d_Tr_add_25 : decode c_Tr_add 25 = .ok (.aload_n 0, 1) := by decide +kernel
theorem d_Tr_add_26 : decode c_Tr_add 26 = .ok (.getfield 15, 3) := by decide +kernel
theorem d_Tr_add_29 : decode c_Tr_add 29 = .ok (.iload 4, 2) := by decide +kernel
theorem d_Tr_add_31 : decode c_Tr_add 31 = .ok (.iload_n 2, 1) := by decide +kernel
theorem d_Tr_add_32 : decode c_Tr_add 32 = .ok (.iastore, 1) := by decide +kernel
theorem d_Tr_add_33 : decode c_Tr_add 33 = .ok (.aload_n 0, 1) := by decide +kernel
theorem d_Tr_add_34 : decode c_Tr_add 34 = .ok (.getfield 18, 3) := by decide +kernel
theorem d_Tr_add_37 : decode c_Tr_add 37 = .ok (.iload 4, 2) := by decide +kernel
theorem d_Tr_add_39 : decode c_Tr_add 39 = .ok (.iload_n 3, 1) := by decide +kernel
theorem d_Tr_add_40 : decode c_Tr_add 40 = .ok (.iastore, 1) := by decide +kernel
theorem d_Tr_add_41 : decode c_Tr_add 41 = .ok (.aload_n 0, 1) := by decide +kernel
theorem d_Tr_add_42 : decode c_Tr_add 42 = .ok (.getfield 9, 3) := by decide +kernel
theorem d_Tr_add_45 : decode c_Tr_add 45 = .ok (.iload_n 1, 1) := by decide +kernel
theorem d_Tr_add_46 : decode c_Tr_add 46 = .ok (.dup2, 1) := by decide +kernel
theorem d_Tr_add_47 : decode c_Tr_add 47 = .ok (.iaload, 1) := by decide +kernel
theorem d_Tr_add_48 : decode c_Tr_add 48 = .ok (.iconst 1, 1) := by decide +kernel
theorem d_Tr_add_49 : decode c_Tr_add 49 = .ok (.iadd, 1) := by decide +kernel
theorem d_Tr_add_50 : decode c_Tr_add 50 = .ok (.iastore, 1) := by decide +kernel
theorem d_Tr_add_51 : decode c_Tr_add 51 = .ok (.return_, 1) := by decide +kernel
theorem d_Tr_placeNow_0 : decode c_Tr_placeNow 0 = .ok (.aload_n 0, 1) := by decide +kernel
theorem d_Tr_placeNow_1 : decode c_Tr_placeNow 1 = .ok (.getfield 9, 3) := by decide +kernel
theorem d_Tr_placeNow_4 : decode c_Tr_placeNow 4 = .ok (.iload_n 1, 1) := by decide +kernel
theorem d_Tr_placeNow_5 : decode c_Tr_placeNow 5 = .ok (.iaload, 1) := by decide +kernel
theorem d_Tr_placeNow_6 : decode c_Tr_placeNow 6 = .ok (.ifCond .ne 7, 3) := by decide +kernel
theorem d_Tr_placeNow_9 : decode c_Tr_placeNow 9 = .ok (.iconst (-1), 1) := by decide +kernel
theorem d_Tr_placeNow_10 : decode c_Tr_placeNow 10 = .ok (.goto 21, 3) := by decide +kernel
theorem d_Tr_placeNow_13 : decode c_Tr_placeNow 13 = .ok (.aload_n 0, 1) := by decide +kernel
theorem d_Tr_placeNow_14 : decode c_Tr_placeNow 14 = .ok (.getfield 18, 3) := by decide +kernel
theorem d_Tr_placeNow_17 : decode c_Tr_placeNow 17 = .ok (.iload_n 1, 1) := by decide +kernel
theorem d_Tr_placeNow_18 : decode c_Tr_placeNow 18 = .ok (.bipush 46, 2) := by decide +kernel
theorem d_Tr_placeNow_20 : decode c_Tr_placeNow 20 = .ok (.imul, 1) := by decide +kernel
theorem d_Tr_placeNow_21 : decode c_Tr_placeNow 21 = .ok (.aload_n 0, 1) := by decide +kernel
theorem d_Tr_placeNow_22 : decode c_Tr_placeNow 22 = .ok (.getfield 9, 3) := by decide +kernel
theorem d_Tr_placeNow_25 : decode c_Tr_placeNow 25 = .ok (.iload_n 1, 1) := by decide +kernel
theorem d_Tr_placeNow_26 : decode c_Tr_placeNow 26 = .ok (.iaload, 1) := by decide +kernel
theorem d_Tr_placeNow_27 : decode c_Tr_placeNow 27 = .ok (.iadd, 1) := by decide +kernel
theorem d_Tr_placeNow_28 : decode c_Tr_placeNow 28 = .ok (.iconst 1, 1) := by decide +kernel
theorem d_Tr_placeNow_29 : decode c_Tr_placeNow 29 = .ok (.isub, 1) := by decide +kernel
theorem d_Tr_placeNow_30 : decode c_Tr_placeNow 30 = .ok (.iaload, 1) := by decide +kernel
theorem d_Tr_placeNow_31 : decode c_Tr_placeNow 31 = .ok (.ireturn, 1) := by decide +kernel
theorem d_Tr_placeBehind_0 : decode c_Tr_placeBehind 0 = .ok (.aload_n 0, 1) := by decide +kernel
theorem d_Tr_placeBehind_1 : decode c_Tr_placeBehind 1 = .ok (.getfield 9, 3) := by decide +kernel
theorem d_Tr_placeBehind_4 : decode c_Tr_placeBehind 4 = .ok (.iload_n 1, 1) := by decide +kernel
theorem d_Tr_placeBehind_5 : decode c_Tr_placeBehind 5 = .ok (.iaload, 1) := by decide +kernel
theorem d_Tr_placeBehind_6 : decode c_Tr_placeBehind 6 = .ok (.iconst 1, 1) := by decide +kernel
theorem d_Tr_placeBehind_7 : decode c_Tr_placeBehind 7 = .ok (.isub, 1) := by decide +kernel
theorem d_Tr_placeBehind_8 : decode c_Tr_placeBehind 8 = .ok (.istore_n 3, 1) := by decide +kernel
theorem d_Tr_placeBehind_9 : decode c_Tr_placeBehind 9 = .ok (.iload_n 3, 1) := by decide +kernel
theorem d_Tr_placeBehind_10 : decode c_Tr_placeBehind 10 = .ok (.ifCond .lt 36, 3) := by decide +kernel
theorem d_Tr_placeBehind_13 : decode c_Tr_placeBehind 13 = .ok (.aload_n 0, 1) := by decide +kernel
theorem d_Tr_placeBehind_14 : decode c_Tr_placeBehind 14 = .ok (.getfield 15, 3) := by decide +kernel
theorem d_Tr_placeBehind_17 : decode c_Tr_placeBehind 17 = .ok (.iload_n 1, 1) := by decide +kernel
theorem d_Tr_placeBehind_18 : decode c_Tr_placeBehind 18 = .ok (.bipush 46, 2) := by decide +kernel
theorem d_Tr_placeBehind_20 : decode c_Tr_placeBehind 20 = .ok (.imul, 1) := by decide +kernel
theorem d_Tr_placeBehind_21 : decode c_Tr_placeBehind 21 = .ok (.iload_n 3, 1) := by decide +kernel
theorem d_Tr_placeBehind_22 : decode c_Tr_placeBehind 22 = .ok (.iadd, 1) := by decide +kernel
theorem d_Tr_placeBehind_23 : decode c_Tr_placeBehind 23 = .ok (.iaload, 1) := by decide +kernel
theorem d_Tr_placeBehind_24 : decode c_Tr_placeBehind 24 = .ok (.iload_n 2, 1) := by decide +kernel
theorem d_Tr_placeBehind_25 : decode c_Tr_placeBehind 25 = .ok (.if_icmp .gt 15, 3) := by decide +kernel
theorem d_Tr_placeBehind_28 : decode c_Tr_placeBehind 28 = .ok (.aload_n 0, 1) := by decide +kernel
theorem d_Tr_placeBehind_29 : decode c_Tr_placeBehind 29 = .ok (.getfield 18, 3) := by decide +kernel
theorem d_Tr_placeBehind_32 : decode c_Tr_placeBehind 32 = .ok (.iload_n 1, 1) := by decide +kernel
theorem d_Tr_placeBehind_33 : decode c_Tr_placeBehind 33 = .ok (.bipush 46, 2) := by decide +kernel
theorem d_Tr_placeBehind_35 : decode c_Tr_placeBehind 35 = .ok (.imul, 1) := by decide +kernel
theorem d_Tr_placeBehind_36 : decode c_Tr_placeBehind 36 = .ok (.iload_n 3, 1) := by decide +kernel
theorem d_Tr_placeBehind_37 : decode c_Tr_placeBehind 37 = .ok (.iadd, 1) := by decide +kernel
theorem d_Tr_placeBehind_38 : decode c_Tr_placeBehind 38 = .ok (.iaload, 1) := by decide +kernel
theorem d_Tr_placeBehind_39 : decode c_Tr_placeBehind 39 = .ok (.ireturn, 1) := by decide +kernel
theorem d_Tr_placeBehind_40 : decode c_Tr_placeBehind 40 = .ok (.iinc 3 (-1), 3) := by decide +kernel
theorem d_Tr_placeBehind_43 : decode c_Tr_placeBehind 43 = .ok (.goto (-34), 3) := by decide +kernel
theorem d_Tr_placeBehind_46 : decode c_Tr_placeBehind 46 = .ok (.iconst (-1), 1) := by decide +kernel
theorem d_Tr_placeBehind_47 : decode c_Tr_placeBehind 47 = .ok (.ireturn, 1) := by decide +kernel
theorem d_Tr_firstJoining_0 : decode c_Tr_firstJoining 0 = .ok (.iconst 0, 1) := by decide +kernel
theorem d_Tr_firstJoining_1 : decode c_Tr_firstJoining 1 = .ok (.istore_n 3, 1) := by decide +kernel
theorem d_Tr_firstJoining_2 : decode c_Tr_firstJoining 2 = .ok (.iload_n 3, 1) := by decide +kernel
theorem d_Tr_firstJoining_3 : decode c_Tr_firstJoining 3 = .ok (.aload_n 0, 1) := by decide +kernel
theorem d_Tr_firstJoining_4 : decode c_Tr_firstJoining 4 = .ok (.getfield 9, 3) := by decide +kernel
theorem d_Tr_firstJoining_7 : decode c_Tr_firstJoining 7 = .ok (.iload_n 1, 1) := by decide +kernel
theorem d_Tr_firstJoining_8 : decode c_Tr_firstJoining 8 = .ok (.iaload, 1) := by decide +kernel
theorem d_Tr_firstJoining_9 : decode c_Tr_firstJoining 9 = .ok (.if_icmp .ge 56, 3) := by decide +kernel
theorem d_Tr_firstJoining_12 : decode c_Tr_firstJoining 12 = .ok (.aload_n 0, 1) := by decide +kernel
theorem d_Tr_firstJoining_13 : decode c_Tr_firstJoining 13 = .ok (.getfield 15, 3) := by decide +kernel
theorem d_Tr_firstJoining_16 : decode c_Tr_firstJoining 16 = .ok (.iload_n 1, 1) := by decide +kernel
theorem d_Tr_firstJoining_17 : decode c_Tr_firstJoining 17 = .ok (.bipush 46, 2) := by decide +kernel
theorem d_Tr_firstJoining_19 : decode c_Tr_firstJoining 19 = .ok (.imul, 1) := by decide +kernel
theorem d_Tr_firstJoining_20 : decode c_Tr_firstJoining 20 = .ok (.iload_n 3, 1) := by decide +kernel
theorem d_Tr_firstJoining_21 : decode c_Tr_firstJoining 21 = .ok (.iadd, 1) := by decide +kernel
theorem d_Tr_firstJoining_22 : decode c_Tr_firstJoining 22 = .ok (.iaload, 1) := by decide +kernel
theorem d_Tr_firstJoining_23 : decode c_Tr_firstJoining 23 = .ok (.istore 4, 2) := by decide +kernel
theorem d_Tr_firstJoining_25 : decode c_Tr_firstJoining 25 = .ok (.aload_n 0, 1) := by decide +kernel
theorem d_Tr_firstJoining_26 : decode c_Tr_firstJoining 26 = .ok (.getfield 18, 3) := by decide +kernel
theorem d_Tr_firstJoining_29 : decode c_Tr_firstJoining 29 = .ok (.iload_n 1, 1) := by decide +kernel
theorem d_Tr_firstJoining_30 : decode c_Tr_firstJoining 30 = .ok (.bipush 46, 2) := by decide +kernel
theorem d_Tr_firstJoining_32 : decode c_Tr_firstJoining 32 = .ok (.imul, 1) := by decide +kernel
theorem d_Tr_firstJoining_33 : decode c_Tr_firstJoining 33 = .ok (.iload_n 3, 1) := by decide +kernel
theorem d_Tr_firstJoining_34 : decode c_Tr_firstJoining 34 = .ok (.iadd, 1) := by decide +kernel
theorem d_Tr_firstJoining_35 : decode c_Tr_firstJoining 35 = .ok (.iaload, 1) := by decide +kernel
theorem d_Tr_firstJoining_36 : decode c_Tr_firstJoining 36 = .ok (.istore 5, 2) := by decide +kernel
theorem d_Tr_firstJoining_38 : decode c_Tr_firstJoining 38 = .ok (.iload 5, 2) := by decide +kernel
theorem d_Tr_firstJoining_40 : decode c_Tr_firstJoining 40 = .ok (.iconst (-1), 1) := by decide +kernel
theorem d_Tr_firstJoining_41 : decode c_Tr_firstJoining 41 = .ok (.if_icmp .eq 18, 3) := by decide +kernel
theorem d_Tr_firstJoining_44 : decode c_Tr_firstJoining 44 = .ok (.aload_n 0, 1) := by decide +kernel
theorem d_Tr_firstJoining_45 : decode c_Tr_firstJoining 45 = .ok (.iload_n 2, 1) := by decide +kernel
theorem d_Tr_firstJoining_46 : decode c_Tr_firstJoining 46 = .ok (.iload 4, 2) := by decide +kernel
theorem d_Tr_firstJoining_48 : decode c_Tr_firstJoining 48 = .ok (.invokevirtual 21, 3) := by decide +kernel
theorem d_Tr_firstJoining_51 : decode c_Tr_firstJoining 51 = .ok (.iload 5, 2) := by decide +kernel
theorem d_Tr_firstJoining_53 : decode c_Tr_firstJoining 53 = .ok (.if_icmp .ne 6, 3) := by decide +kernel
theorem d_Tr_firstJoining_56 : decode c_Tr_firstJoining 56 = .ok (.iload 4, 2) := by decide +kernel
theorem d_Tr_firstJoining_58 : decode c_Tr_firstJoining 58 = .ok (.ireturn, 1) := by decide +kernel
theorem d_Tr_firstJoining_59 : decode c_Tr_firstJoining 59 = .ok (.iinc 3 1, 3) := by decide +kernel
theorem d_Tr_firstJoining_62 : decode c_Tr_firstJoining 62 = .ok (.goto (-60), 3) := by decide +kernel
theorem d_Tr_firstJoining_65 : decode c_Tr_firstJoining 65 = .ok (.iconst (-1), 1) := by decide +kernel
theorem d_Tr_firstJoining_66 : decode c_Tr_firstJoining 66 = .ok (.ireturn, 1) := by decide +kernel
end
section
theorem d_Mo_init_0 : decode c_Mo_init 0 = .ok (.aload_n 0, 1) := by decide +kernel
theorem d_Mo_init_1 : decode c_Mo_init 1 = .ok (.invokespecial 1, 3) := by decide +kernel
theorem d_Mo_init_4 : decode c_Mo_init 4 = .ok (.aload_n 0, 1) := by decide +kernel
theorem d_Mo_init_5 : decode c_Mo_init 5 = .ok (.bipush 12, 2) := by decide +kernel
theorem d_Mo_init_7 : decode c_Mo_init 7 = .ok (.newarray .int, 2) := by decide +kernel
theorem d_Mo_init_9 : decode c_Mo_init 9 = .ok (.putfield 7, 3) := by decide +kernel
theorem d_Mo_init_12 : decode c_Mo_init 12 = .ok (.aload_n 0, 1) := by decide +kernel
theorem d_Mo_init_13 : decode c_Mo_init 13 = .ok (.bipush 12, 2) := by decide +kernel
theorem d_Mo_init_15 : decode c_Mo_init 15 = .ok (.newarray .int, 2) := by decide +kernel
theorem d_Mo_init_17 : decode c_Mo_init 17 = .ok (.putfield 13, 3) := by decide +kernel
theorem d_Mo_init_20 : decode c_Mo_init 20 = .ok (.aload_n 0, 1) := by decide +kernel
theorem d_Mo_init_21 : decode c_Mo_init 21 = .ok (.bipush 12, 2) := by decide +kernel
theorem d_Mo_init_23 : decode c_Mo_init 23 = .ok (.newarray .int, 2) := by decide +kernel
theorem d_Mo_init_25 : decode c_Mo_init 25 = .ok (.putfield 16, 3) := by decide +kernel
theorem d_Mo_init_28 : decode c_Mo_init 28 = .ok (.aload_n 0, 1) := by decide +kernel
theorem d_Mo_init_29 : decode c_Mo_init 29 = .ok (.bipush 12, 2) := by decide +kernel
theorem d_Mo_init_31 : decode c_Mo_init 31 = .ok (.newarray .int, 2) := by decide +kernel
theorem d_Mo_init_33 : decode c_Mo_init 33 = .ok (.putfield 19, 3) := by decide +kernel
theorem d_Mo_init_36 : decode c_Mo_init 36 = .ok (.aload_n 0, 1) := by decide +kernel
theorem d_Mo_init_37 : decode c_Mo_init 37 = .ok (.sipush 144, 3) := by decide +kernel
theorem d_Mo_init_40 : decode c_Mo_init 40 = .ok (.newarray .int, 2) := by decide +kernel
theorem d_Mo_init_42 : decode c_Mo_init 42 = .ok (.putfield 22, 3) := by decide +kernel
theorem d_Mo_init_45 : decode c_Mo_init 45 = .ok (.aload_n 0, 1) := by decide +kernel
theorem d_Mo_init_46 : decode c_Mo_init 46 = .ok (.bipush 16, 2) := by decide +kernel
theorem d_Mo_init_48 : decode c_Mo_init 48 = .ok (.newarray .int, 2) := by decide +kernel
theorem d_Mo_init_50 : decode c_Mo_init 50 = .ok (.putfield 25, 3) := by decide +kernel
theorem d_Mo_init_53 : decode c_Mo_init 53 = .ok (.aload_n 0, 1) := by decide +kernel
theorem d_Mo_init_54 : decode c_Mo_init 54 = .ok (.bipush 16, 2) := by decide +kernel
theorem d_Mo_init_56 : decode c_Mo_init 56 = .ok (.newarray .int, 2) := by decide +kernel
theorem d_Mo_init_58 : decode c_Mo_init 58 = .ok (.putfield 28, 3) := by decide +kernel
theorem d_Mo_init_61 : decode c_Mo_init 61 = .ok (.aload_n 0, 1) := by decide +kernel
theorem d_Mo_init_62 : decode c_Mo_init 62 = .ok (.bipush 16, 2) := by decide +kernel
theorem d_Mo_init_64 : decode c_Mo_init 64 = .ok (.newarray .int, 2) := by decide +kernel
theorem d_Mo_init_66 : decode c_Mo_init 66 = .ok (.putfield 31, 3) := by decide +kernel
theorem d_Mo_init_69 : decode c_Mo_init 69 = .ok (.aload_n 0, 1) := by decide +kernel
theorem d_Mo_init_70 : decode c_Mo_init 70 = .ok (.bipush 16, 2) := by decide +kernel
theorem d_Mo_init_72 : decode c_Mo_init 72 = .ok (.newarray .int, 2) := by decide +kernel
theorem d_Mo_init_74 : decode c_Mo_init 74 = .ok (.putfield 34, 3) := by decide +kernel
theorem d_Mo_init_77 : decode c_Mo_init 77 = .ok (.aload_n 0, 1) := by decide +kernel
theorem d_Mo_init_78 : decode c_Mo_init 78 = .ok (.bipush 16, 2) := by decide +kernel
theorem d_Mo_init_80 : decode c_Mo_init 80 = .ok (.newarray .int, 2) := by decide +kernel
theorem d_Mo_init_82 : decode c_Mo_init 82 = .ok (.putfield 37, 3) := by decide +kernel
theorem d_Mo_init_85 : decode c_Mo_init 85 = .ok (.aload_n 0, 1) := by decide +kernel
theorem d_Mo_init_86 : decode c_Mo_init 86 = .ok (.bipush 16, 2) := by decide +kernel
theorem d_Mo_init_88 : decode c_Mo_init 88 = .ok (.newarray .int, 2) := by decide +kernel
theorem d_Mo_init_90 : decode c_Mo_init 90 = .ok (.putfield 40, 3) := by decide +kernel
theorem d_Mo_init_93 : decode c_Mo_init 93 = .ok (.aload_n 0, 1) := by decide +kernel
theorem d_Mo_init_94 : decode c_Mo_init 94 = .ok (.bipush 60, 2) := by decide +kernel
theorem d_Mo_init_96 : decode c_Mo_init 96 = .ok (.newarray .int, 2) := by decide +kernel
theorem d_Mo_init_98 : decode c_Mo_init 98 = .ok (.putfield 43, 3) := by decide +kernel
theorem d_Mo_init_101 : decode c_Mo_init 101 = .ok (.aload_n 0, 1) := by decide +kernel
theorem d_Mo_init_102 : decode c_Mo_init 102 = .ok (.bipush 60, 2) := by decide +kernel
theorem d_Mo_init_104 : decode c_Mo_init 104 = .ok (.newarray .int, 2) := by decide +kernel
theorem d_Mo_init_106 : decode c_Mo_init 106 = .ok (.putfield 46, 3) := by decide +kernel
theorem d_Mo_init_109 : decode c_Mo_init 109 = .ok (.aload_n 0, 1) := by decide +kernel
theorem d_Mo_init_110 : decode c_Mo_init 110 = .ok (.bipush 60, 2) := by decide +kernel
theorem d_Mo_init_112 : decode c_Mo_init 112 = .ok (.newarray .int, 2) := by decide +kernel
theorem d_Mo_init_114 : decode c_Mo_init 114 = .ok (.putfield 49, 3) := by decide +kernel
theorem d_Mo_init_117 : decode c_Mo_init 117 = .ok (.aload_n 0, 1) := by decide +kernel
theorem d_Mo_init_118 : decode c_Mo_init 118 = .ok (.ldc 52, 2) := by decide +kernel
theorem d_Mo_init_120 : decode c_Mo_init 120 = .ok (.newarray .byte, 2) := by decide +kernel
theorem d_Mo_init_122 : decode c_Mo_init 122 = .ok (.putfield 53, 3) := by decide +kernel
theorem d_Mo_init_125 : decode c_Mo_init 125 = .ok (.aload_n 0, 1) := by decide +kernel
theorem d_Mo_init_126 : decode c_Mo_init 126 = .ok (.lload_n 1, 1) := by decide +kernel
theorem d_Mo_init_127 : decode c_Mo_init 127 = .ok (.putfield 57, 3) := by decide +kernel
theorem d_Mo_init_130 : decode c_Mo_init 130 = .ok (.iconst 0, 1) := by decide +kernel
theorem d_Mo_init_131 : decode c_Mo_init 131 = .ok (.istore_n 3, 1) := by decide +kernel
theorem d_Mo_init_132 : decode c_Mo_init 132 = .ok (.iload_n 3, 1) := by decide +kernel
theorem d_Mo_init_133 : decode c_Mo_init 133 = .ok (.sipush 144, 3) := by decide +kernel
theorem d_Mo_init_136 : decode c_Mo_init 136 = .ok (.if_icmp .ge 31, 3) := by decide +kernel
theorem d_Mo_init_139 : decode c_Mo_init 139 = .ok (.aload_n 0, 1) := by decide +kernel
theorem d_Mo_init_140 : decode c_Mo_init 140 = .ok (.getfield 22, 3) := by decide +kernel
theorem d_Mo_init_143 : decode c_Mo_init 143 = .ok (.iload_n 3, 1) := by decide +kernel
theorem d_Mo_init_144 : decode c_Mo_init 144 = .ok (.iload_n 3, 1) := by decide +kernel
theorem d_Mo_init_145 : decode c_Mo_init 145 = .ok (.bipush 12, 2) := by decide +kernel
theorem d_Mo_init_147 : decode c_Mo_init 147 = .ok (.idiv, 1) := by decide +kernel
theorem d_Mo_init_148 : decode c_Mo_init 148 = .ok (.iload_n 3, 1) := by decide +kernel
theorem d_Mo_init_149 : decode c_Mo_init 149 = .ok (.bipush 12, 2) := by decide +kernel
theorem d_Mo_init_151 : decode c_Mo_init 151 = .ok (.irem, 1) := by decide +kernel
theorem d_Mo_init_152 : decode c_Mo_init 152 = .ok (.if_icmp .ne 7, 3) := by decide +kernel
theorem d_Mo_init_155 : decode c_Mo_init 155 = .ok (.iconst 0, 1) := by decide +kernel
theorem d_Mo_init_156 : decode c_Mo_init 156 = .ok (.goto 4, 3) := by decide +kernel
theorem d_Mo_init_159 : decode c_Mo_init 159 = .ok (.iconst (-1), 1) := by decide +kernel
theorem d_Mo_init_160 : decode c_Mo_init 160 = .ok (.iastore, 1) := by decide +kernel
theorem d_Mo_init_161 : decode c_Mo_init 161 = .ok (.iinc 3 1, 3) := by decide +kernel
theorem d_Mo_init_164 : decode c_Mo_init 164 = .ok (.goto (-32), 3) := by decide +kernel
theorem d_Mo_init_167 : decode c_Mo_init 167 = .ok (.iconst 0, 1) := by decide +kernel
theorem d_Mo_init_168 : decode c_Mo_init 168 = .ok (.istore_n 3, 1) := by decide +kernel
theorem d_Mo_init_169 : decode c_Mo_init 169 = .ok (.iload_n 3, 1) := by decide +kernel
theorem d_Mo_init_170 : decode c_Mo_init 170 = .ok (.bipush 60, 2) := by decide +kernel
theorem d_Mo_init_172 : decode c_Mo_init 172 = .ok (.if_icmp .ge 16, 3) := by decide +kernel
theorem d_Mo_init_175 : decode c_Mo_init 175 = .ok (.aload_n 0, 1) := by decide +kernel
theorem d_Mo_init_176 : decode c_Mo_init 176 = .ok (.getfield 46, 3) := by decide +kernel
theorem d_Mo_init_179 : decode c_Mo_init 179 = .ok (.iload_n 3, 1) := by decide +kernel
theorem d_Mo_init_180 : decode c_Mo_init 180 = .ok (.iconst (-1), 1) := by decide +kernel
theorem d_Mo_init_181 : decode c_Mo_init 181 = .ok (.iastore, 1) := by decide +kernel
theorem d_Mo_init_182 : decode c_Mo_init 182 = .ok (.iinc 3 1, 3) := by decide +kernel
theorem d_Mo_init_185 : decode c_Mo_init 185 = .ok (.goto (-16), 3) := by decide +kernel
theorem d_Mo_init_188 : decode c_Mo_init 188 = .ok (.return_, 1) := by decide +kernel
theorem d_Mo_thrown_0 : decode c_Mo_thrown 0 = .ok (.aload_n 0, 1) := by decide +kernel
theorem d_Mo_thrown_1 : decode c_Mo_thrown 1 = .ok (.getfield 61, 3) := by decide +kernel
theorem d_Mo_thrown_4 : decode c_Mo_thrown 4 = .ok (.ireturn, 1) := by decide +kernel
theorem d_Mo_may_0 : decode c_Mo_may 0 = .ok (.aload_n 0, 1) := by decide +kernel
theorem d_Mo_may_1 : decode c_Mo_may 1 = .ok (.iload_n 1, 1) := by decide +kernel
theorem d_Mo_may_2 : decode c_Mo_may 2 = .ok (.ifCond .ne 7, 3) := by decide +kernel
theorem d_Mo_may_5 : decode c_Mo_may 5 = .ok (.iconst 1, 1) := by decide +kernel
theorem d_Mo_may_6 : decode c_Mo_may 6 = .ok (.goto 12, 3) := by decide +kernel
theorem d_Mo_may_9 : decode c_Mo_may 9 = .ok (.iload_n 2, 1) := by decide +kernel
theorem d_Mo_may_10 : decode c_Mo_may 10 = .ok (.ifCond .ne 7, 3) := by decide +kernel
theorem d_Mo_may_13 : decode c_Mo_may 13 = .ok (.iconst 2, 1) := by decide +kernel
theorem d_Mo_may_14 : decode c_Mo_may 14 = .ok (.goto 4, 3) := by decide +kernel
theorem d_Mo_may_17 : decode c_Mo_may 17 = .ok (.iconst 0, 1) := by decide +kernel
theorem d_Mo_may_18 : decode c_Mo_may 18 = .ok (.putfield 61, 3) := by decide +kernel
theorem d_Mo_may_21 : decode c_Mo_may 21 = .ok (.aload_n 0, 1) := by decide +kernel
theorem d_Mo_may_22 : decode c_Mo_may 22 = .ok (.getfield 61, 3) := by decide +kernel
theorem d_Mo_may_25 : decode c_Mo_may 25 = .ok (.ifCond .ne 7, 3) := by decide +kernel
theorem d_Mo_may_28 : decode c_Mo_may 28 = .ok (.iconst 1, 1) := by decide +kernel
theorem d_Mo_may_29 : decode c_Mo_may 29 = .ok (.goto 4, 3) := by decide +kernel
theorem d_Mo_may_32 : decode c_Mo_may 32 = .ok (.iconst 0, 1) := by decide +kernel
theorem d_Mo_may_33 : decode c_Mo_may 33 = .ok (.ireturn, 1) := by decide +kernel
theorem d_Mo_within_0 : decode c_Mo_within 0 = .ok (.lload_n 0, 1) := by decide +kernel
theorem d_Mo_within_1 : decode c_Mo_within 1 = .ok (.lload_n 2, 1) := by decide +kernel
theorem d_Mo_within_2 : decode c_Mo_within 2 = .ok (.lcmp, 1) := by decide +kernel
theorem d_Mo_within_3 : decode c_Mo_within 3 = .ok (.ifCond .lt 14, 3) := by decide +kernel
theorem d_Mo_within_6 : decode c_Mo_within 6 = .ok (.lload_n 0, 1) := by decide +kernel
theorem d_Mo_within_7 : decode c_Mo_within 7 = .ok (.lload 4, 2) := by decide +kernel
theorem d_Mo_within_9 : decode c_Mo_within 9 = .ok (.lcmp, 1) := by decide +kernel
theorem d_Mo_within_10 : decode c_Mo_within 10 = .ok (.ifCond .gt 7, 3) := by decide +kernel
theorem d_Mo_within_13 : decode c_Mo_within 13 = .ok (.iconst 1, 1) := by decide +kernel
theorem d_Mo_within_14 : decode c_Mo_within 14 = .ok (.goto 4, 3) := by decide +kernel
theorem d_Mo_within_17 : decode c_Mo_within 17 = .ok (.iconst 0, 1) := by decide +kernel
theorem d_Mo_within_18 : decode c_Mo_within 18 = .ok (.ireturn, 1) := by decide +kernel
theorem d_Mo_isRoom_0 : decode c_Mo_isRoom 0 = .ok (.iload_n 1, 1) := by decide +kernel
theorem d_Mo_isRoom_1 : decode c_Mo_isRoom 1 = .ok (.ifCond .lt 15, 3) := by decide +kernel
theorem d_Mo_isRoom_4 : decode c_Mo_isRoom 4 = .ok (.iload_n 1, 1) := by decide +kernel
theorem d_Mo_isRoom_5 : decode c_Mo_isRoom 5 = .ok (.aload_n 0, 1) := by decide +kernel
theorem d_Mo_isRoom_6 : decode c_Mo_isRoom 6 = .ok (.getfield 65, 3) := by decide +kernel
theorem d_Mo_isRoom_9 : decode c_Mo_isRoom 9 = .ok (.if_icmp .ge 7, 3) := by decide +kernel
theorem d_Mo_isRoom_12 : decode c_Mo_isRoom 12 = .ok (.iconst 1, 1) := by decide +kernel
theorem d_Mo_isRoom_13 : decode c_Mo_isRoom 13 = .ok (.goto 4, 3) := by decide +kernel
theorem d_Mo_isRoom_16 : decode c_Mo_isRoom 16 = .ok (.iconst 0, 1) := by decide +kernel
theorem d_Mo_isRoom_17 : decode c_Mo_isRoom 17 = .ok (.ireturn, 1) := by decide +kernel
theorem d_Mo_isPerson_0 : decode c_Mo_isPerson 0 = .ok (.iload_n 1, 1) := by decide +kernel
theorem d_Mo_isPerson_1 : decode c_Mo_isPerson 1 = .ok (.ifCond .lt 15, 3) := by decide +kernel
theorem d_Mo_isPerson_4 : decode c_Mo_isPerson 4 = .ok (.iload_n 1, 1) := by decide +kernel
theorem d_Mo_isPerson_5 : decode c_Mo_isPerson 5 = .ok (.aload_n 0, 1) := by decide +kernel
theorem d_Mo_isPerson_6 : decode c_Mo_isPerson 6 = .ok (.getfield 68, 3) := by decide +kernel
theorem d_Mo_isPerson_9 : decode c_Mo_isPerson 9 = .ok (.if_icmp .ge 7, 3) := by decide +kernel
theorem d_Mo_isPerson_12 : decode c_Mo_isPerson 12 = .ok (.iconst 1, 1) := by decide +kernel
theorem d_Mo_isPerson_13 : decode c_Mo_isPerson 13 = .ok (.goto 4, 3) := by decide +kernel
theorem d_Mo_isPerson_16 : decode c_Mo_isPerson 16 = .ok (.iconst 0, 1) := by decide +kernel
theorem d_Mo_isPerson_17 : decode c_Mo_isPerson 17 = .ok (.ireturn, 1) := by decide +kernel
theorem d_Mo_room_0 : decode c_Mo_room 0 = .ok (.aload_n 0, 1) := by decide +kernel
theorem d_Mo_room_1 : decode c_Mo_room 1 = .ok (.iload_n 1, 1) := by decide +kernel
theorem d_Mo_room_2 : decode c_Mo_room 2 = .ok (.i2l, 1) := by decide +kernel
theorem d_Mo_room_3 : decode c_Mo_room 3 = .ok (.lconst 1, 1) := by decide +kernel
theorem d_Mo_room_4 : decode c_Mo_room 4 = .ok (.ldc2_w 71, 3) := by decide +kernel
theorem d_Mo_room_7 : decode c_Mo_room 7 = .ok (.invokestatic 73, 3) := by decide +kernel
theorem d_Mo_room_10 : decode c_Mo_room 10 = .ok (.aload_n 0, 1) := by decide +kernel
theorem d_Mo_room_11 : decode c_Mo_room 11 = .ok (.getfield 77, 3) := by decide +kernel
theorem d_Mo_room_14 : decode c_Mo_room 14 = .ok (.ifCond .ne 16, 3) := by decide +kernel
theorem d_Mo_room_17 : decode c_Mo_room 17 = .ok (.aload_n 0, 1) := by decide +kernel
theorem d_Mo_room_18 : decode c_Mo_room 18 = .ok (.getfield 65, 3) := by decide +kernel
theorem d_Mo_room_21 : decode c_Mo_room 21 = .ok (.bipush 12, 2) := by decide +kernel
theorem d_Mo_room_23 : decode c_Mo_room 23 = .ok (.if_icmp .ge 7, 3) := by decide +kernel
theorem d_Mo_room_26 : decode c_Mo_room 26 = .ok (.iconst 1, 1) := by decide +kernel
theorem d_Mo_room_27 : decode c_Mo_room 27 = .ok (.goto 4, 3) := by decide +kernel
theorem d_Mo_room_30 : decode c_Mo_room 30 = .ok (.iconst 0, 1) := by decide +kernel
theorem d_Mo_room_31 : decode c_Mo_room 31 = .ok (.invokevirtual 80, 3) := by decide +kernel
theorem d_Mo_room_34 : decode c_Mo_room 34 = .ok (.ifCond .ne 5, 3) := by decide +kernel
theorem d_Mo_room_37 : decode c_Mo_room 37 = .ok (.iconst 0, 1) := by decide +kernel
theorem d_Mo_room_38 : decode c_Mo_room 38 = .ok (.ireturn, 1) := by decide +kernel
theorem d_Mo_room_39 : decode c_Mo_room 39 = .ok (.aload_n 0, 1) := by decide +kernel
theorem d_Mo_room_40 : decode c_Mo_room 40 = .ok (.getfield 7, 3) := by decide +kernel
theorem d_Mo_room_43 : decode c_Mo_room 43 = .ok (.aload_n 0, 1) := by decide +kernel
theorem d_Mo_room_44 : decode c_Mo_room 44 = .ok (.getfield 65, 3) := by decide +kernel
theorem d_Mo_room_47 : decode c_Mo_room 47 = .ok (.iload_n 1, 1) := by decide +kernel
theorem d_Mo_room_48 : decode c_Mo_room 48 = .ok (.iastore, 1) := by decide +kernel
theorem d_Mo_room_49 : decode c_Mo_room 49 = .ok (.aload_n 0, 1) := by decide +kernel
theorem d_Mo_room_50 : decode c_Mo_room 50 = .ok (.dup, 1) := by decide +kernel
theorem d_Mo_room_51 : decode c_Mo_room 51 = .ok (.getfield 65, 3) := by decide +kernel
theorem d_Mo_room_54 : decode c_Mo_room 54 = .ok (.iconst 1, 1) := by decide +kernel
theorem d_Mo_room_55 : decode c_Mo_room 55 = .ok (.iadd, 1) := by decide +kernel
theorem d_Mo_room_56 : decode c_Mo_room 56 = .ok (.putfield 65, 3) := by decide +kernel
theorem d_Mo_room_59 : decode c_Mo_room 59 = .ok (.aload_n 0, 1) := by decide +kernel
theorem d_Mo_room_60 : decode c_Mo_room 60 = .ok (.getfield 65, 3) := by decide +kernel
theorem d_Mo_room_63 : decode c_Mo_room 63 = .ok (.iconst 1, 1) := by decide +kernel
theorem d_Mo_room_64 : decode c_Mo_room 64 = .ok (.isub, 1) := by decide +kernel
theorem d_Mo_room_65 : decode c_Mo_room 65 = .ok (.ireturn, 1) := by decide +kernel
theorem d_Mo_door_0 : decode c_Mo_door 0 = .ok (.aload_n 0, 1) := by decide +kernel
theorem d_Mo_door_1 : decode c_Mo_door 1 = .ok (.aload_n 0, 1) := by decide +kernel
theorem d_Mo_door_2 : decode c_Mo_door 2 = .ok (.iload_n 1, 1) := by decide +kernel
theorem d_Mo_door_3 : decode c_Mo_door 3 = .ok (.invokevirtual 84, 3) := by decide +kernel
theorem d_Mo_door_6 : decode c_Mo_door 6 = .ok (.ifCond .eq 32, 3) := by decide +kernel
theorem d_Mo_door_9 : decode c_Mo_door 9 = .ok (.aload_n 0, 1) := by decide +kernel
theorem d_Mo_door_10 : decode c_Mo_door 10 = .ok (.iload_n 2, 1) := by decide +kernel
theorem d_Mo_door_11 : decode c_Mo_door 11 = .ok (.invokevirtual 84, 3) := by decide +kernel
theorem d_Mo_door_14 : decode c_Mo_door 14 = .ok (.ifCond .eq 24, 3) := by decide +kernel
theorem d_Mo_door_17 : decode c_Mo_door 17 = .ok (.iload_n 1, 1) := by decide +kernel
theorem d_Mo_door_18 : decode c_Mo_door 18 = .ok (.iload_n 2, 1) := by decide +kernel
theorem d_Mo_door_19 : decode c_Mo_door 19 = .ok (.if_icmp .eq 19, 3) := by decide +kernel
theorem d_Mo_door_22 : decode c_Mo_door 22 = .ok (.iload_n 3, 1) := by decide +kernel
theorem d_Mo_door_23 : decode c_Mo_door 23 = .ok (.i2l, 1) := by decide +kernel
theorem d_Mo_door_24 : decode c_Mo_door 24 = .ok (.lconst 1, 1) := by decide +kernel
theorem d_Mo_door_25 : decode c_Mo_door 25 = .ok (.ldc2_w 88, 3) := by decide +kernel
theorem d_Mo_door_28 : decode c_Mo_door 28 = .ok (.invokestatic 73, 3) := by decide +kernel
theorem d_Mo_door_31 : decode c_Mo_door 31 = .ok (.ifCond .eq 7, 3) := by decide +kernel
theorem d_Mo_door_34 : decode c_Mo_door 34 = .ok (.iconst 1, 1) := by decide +kernel
theorem d_Mo_door_35 : decode c_Mo_door 35 = .ok (.goto 4, 3) := by decide +kernel
theorem d_Mo_door_38 : decode c_Mo_door 38 = .ok (.iconst 0, 1) := by decide +kernel
theorem d_Mo_door_39 : decode c_Mo_door 39 = .ok (.aload_n 0, 1) := by decide +kernel
theorem d_Mo_door_40 : decode c_Mo_door 40 = .ok (.getfield 77, 3) := by decide +kernel
theorem d_Mo_door_43 : decode c_Mo_door 43 = .ok (.ifCond .ne 16, 3) := by decide +kernel
theorem d_Mo_door_46 : decode c_Mo_door 46 = .ok (.aload_n 0, 1) := by decide +kernel
theorem d_Mo_door_47 : decode c_Mo_door 47 = .ok (.getfield 90, 3) := by decide +kernel
theorem d_Mo_door_50 : decode c_Mo_door 50 = .ok (.bipush 16, 2) := by decide +kernel
theorem d_Mo_door_52 : decode c_Mo_door 52 = .ok (.if_icmp .ge 7, 3) := by decide +kernel
theorem d_Mo_door_55 : decode c_Mo_door 55 = .ok (.iconst 1, 1) := by decide +kernel
theorem d_Mo_door_56 : decode c_Mo_door 56 = .ok (.goto 4, 3) := by decide +kernel
theorem d_Mo_door_59 : decode c_Mo_door 59 = .ok (.iconst 0, 1) := by decide +kernel
theorem d_Mo_door_60 : decode c_Mo_door 60 = .ok (.invokevirtual 80, 3) := by decide +kernel
theorem d_Mo_door_63 : decode c_Mo_door 63 = .ok (.ifCond .ne 5, 3) := by decide +kernel
theorem d_Mo_door_66 : decode c_Mo_door 66 = .ok (.iconst 0, 1) := by decide +kernel
theorem d_Mo_door_67 : decode c_Mo_door 67 = .ok (.ireturn, 1) := by decide +kernel
theorem d_Mo_door_68 : decode c_Mo_door 68 = .ok (.aload_n 0, 1) := by decide +kernel
theorem d_Mo_door_69 : decode c_Mo_door 69 = .ok (.getfield 25, 3) := by decide +kernel
theorem d_Mo_door_72 : decode c_Mo_door 72 = .ok (.aload_n 0, 1) := by decide +kernel
theorem d_Mo_door_73 : decode c_Mo_door 73 = .ok (.getfield 90, 3) := by decide +kernel
theorem d_Mo_door_76 : decode c_Mo_door 76 = .ok (.iload_n 1, 1) := by decide +kernel
theorem d_Mo_door_77 : decode c_Mo_door 77 = .ok (.iastore, 1) := by decide +kernel
theorem d_Mo_door_78 : decode c_Mo_door 78 = .ok (.aload_n 0, 1) := by decide +kernel
theorem d_Mo_door_79 : decode c_Mo_door 79 = .ok (.getfield 28, 3) := by decide +kernel
theorem d_Mo_door_82 : decode c_Mo_door 82 = .ok (.aload_n 0, 1) := by decide +kernel
theorem d_Mo_door_83 : decode c_Mo_door 83 = .ok (.getfield 90, 3) := by decide +kernel
theorem d_Mo_door_86 : decode c_Mo_door 86 = .ok (.iload_n 2, 1) := by decide +kernel
theorem d_Mo_door_87 : decode c_Mo_door 87 = .ok (.iastore, 1) := by decide +kernel
theorem d_Mo_door_88 : decode c_Mo_door 88 = .ok (.aload_n 0, 1) := by decide +kernel
theorem d_Mo_door_89 : decode c_Mo_door 89 = .ok (.getfield 31, 3) := by decide +kernel
theorem d_Mo_door_92 : decode c_Mo_door 92 = .ok (.aload_n 0, 1) := by decide +kernel
theorem d_Mo_door_93 : decode c_Mo_door 93 = .ok (.getfield 90, 3) := by decide +kernel
theorem d_Mo_door_96 : decode c_Mo_door 96 = .ok (.iload_n 3, 1) := by decide +kernel
theorem d_Mo_door_97 : decode c_Mo_door 97 = .ok (.iastore, 1) := by decide +kernel
theorem d_Mo_door_98 : decode c_Mo_door 98 = .ok (.aload_n 0, 1) := by decide +kernel
theorem d_Mo_door_99 : decode c_Mo_door 99 = .ok (.dup, 1) := by decide +kernel
theorem d_Mo_door_100 : decode c_Mo_door 100 = .ok (.getfield 90, 3) := by decide +kernel
theorem d_Mo_door_103 : decode c_Mo_door 103 = .ok (.iconst 1, 1) := by decide +kernel
theorem d_Mo_door_104 : decode c_Mo_door 104 = .ok (.iadd, 1) := by decide +kernel
theorem d_Mo_door_105 : decode c_Mo_door 105 = .ok (.putfield 90, 3) := by decide +kernel
theorem d_Mo_door_108 : decode c_Mo_door 108 = .ok (.aload_n 0, 1) := by decide +kernel
theorem d_Mo_door_109 : decode c_Mo_door 109 = .ok (.iload_n 1, 1) := by decide +kernel
theorem d_Mo_door_110 : decode c_Mo_door 110 = .ok (.iload_n 2, 1) := by decide +kernel
theorem d_Mo_door_111 : decode c_Mo_door 111 = .ok (.invokevirtual 93, 3) := by decide +kernel
theorem d_Mo_door_114 : decode c_Mo_door 114 = .ok (.aload_n 0, 1) := by decide +kernel
theorem d_Mo_door_115 : decode c_Mo_door 115 = .ok (.iload_n 2, 1) := by decide +kernel
theorem d_Mo_door_116 : decode c_Mo_door 116 = .ok (.iload_n 1, 1) := by decide +kernel
theorem d_Mo_door_117 : decode c_Mo_door 117 = .ok (.invokevirtual 93, 3) := by decide +kernel
theorem d_Mo_door_120 : decode c_Mo_door 120 = .ok (.aload_n 0, 1) := by decide +kernel
theorem d_Mo_door_121 : decode c_Mo_door 121 = .ok (.getfield 90, 3) := by decide +kernel
theorem d_Mo_door_124 : decode c_Mo_door 124 = .ok (.iconst 1, 1) := by decide +kernel
theorem d_Mo_door_125 : decode c_Mo_door 125 = .ok (.isub, 1) := by decide +kernel
theorem d_Mo_door_126 : decode c_Mo_door 126 = .ok (.ireturn, 1) := by decide +kernel
theorem d_Mo_shorten_0 : decode c_Mo_shorten 0 = .ok (.iconst 0, 1) := by decide +kernel
theorem d_Mo_shorten_1 : decode c_Mo_shorten 1 = .ok (.istore_n 3, 1) := by decide +kernel
theorem d_Mo_shorten_2 : decode c_Mo_shorten 2 = .ok (.iload_n 3, 1) := by decide +kernel
theorem d_Mo_shorten_3 : decode c_Mo_shorten 3 = .ok (.bipush 12, 2) := by decide +kernel
theorem d_Mo_shorten_5 : decode c_Mo_shorten 5 = .ok (.if_icmp .ge 129, 3) := by decide +kernel
theorem d_Mo_shorten_8 : decode c_Mo_shorten 8 = .ok (.iconst 0, 1) := by decide +kernel
theorem d_Mo_shorten_9 : decode c_Mo_shorten 9 = .ok (.istore 4, 2) := by decide +kernel
theorem d_Mo_shorten_11 : decode c_Mo_shorten 11 = .ok (.iload 4, 2) := by decide +kernel
theorem d_Mo_shorten_13 : decode c_Mo_shorten 13 = .ok (.bipush 12, 2) := by decide +kernel
theorem d_Mo_shorten_15 : decode c_Mo_shorten 15 = .ok (.if_icmp .ge 113, 3) := by decide +kernel
theorem d_Mo_shorten_18 : decode c_Mo_shorten 18 = .ok (.aload_n 0, 1) := by decide +kernel
theorem d_Mo_shorten_19 : decode c_Mo_shorten 19 = .ok (.getfield 22, 3) := by decide +kernel
theorem d_Mo_shorten_22 : decode c_Mo_shorten 22 = .ok (.bipush 12, 2) := by decide +kernel
theorem d_Mo_shorten_24 : decode c_Mo_shorten 24 = .ok (.iload_n 3, 1) := by decide +kernel
theorem d_Mo_shorten_25 : decode c_Mo_shorten 25 = .ok (.imul, 1) := by decide +kernel
theorem d_Mo_shorten_26 : decode c_Mo_shorten 26 = .ok (.iload_n 1, 1) := by decide +kernel
theorem d_Mo_shorten_27 : decode c_Mo_shorten 27 = .ok (.iadd, 1) := by decide +kernel
theorem d_Mo_shorten_28 : decode c_Mo_shorten 28 = .ok (.iaload, 1) := by decide +kernel
theorem d_Mo_shorten_29 : decode c_Mo_shorten 29 = .ok (.istore 5, 2) := by decide +kernel
theorem d_Mo_shorten_31 : decode c_Mo_shorten 31 = .ok (.aload_n 0, 1) := by decide +kernel
theorem d_Mo_shorten_32 : decode c_Mo_shorten 32 = .ok (.getfield 22, 3) := by decide +kernel
theorem d_Mo_shorten_35 : decode c_Mo_shorten 35 = .ok (.bipush 12, 2) := by decide +kernel
theorem d_Mo_shorten_37 : decode c_Mo_shorten 37 = .ok (.iload_n 2, 1) := by decide +kernel
theorem d_Mo_shorten_38 : decode c_Mo_shorten 38 = .ok (.imul, 1) := by decide +kernel
theorem d_Mo_shorten_39 : decode c_Mo_shorten 39 = .ok (.iload 4, 2) := by decide +kernel
theorem d_Mo_shorten_41 : decode c_Mo_shorten 41 = .ok (.iadd, 1) := by decide +kernel
theorem d_Mo_shorten_42 : decode c_Mo_shorten 42 = .ok (.iaload, 1) := by decide +kernel
theorem d_Mo_shorten_43 : decode c_Mo_shorten 43 = .ok (.istore 6, 2) := by decide +kernel
theorem d_Mo_shorten_45 : decode c_Mo_shorten 45 = .ok (.aload_n 0, 1) := by decide +kernel
theorem d_Mo_shorten_46 : decode c_Mo_shorten 46 = .ok (.getfield 22, 3) := by decide +kernel
theorem d_Mo_shorten_49 : decode c_Mo_shorten 49 = .ok (.bipush 12, 2) := by decide +kernel
theorem d_Mo_shorten_51 : decode c_Mo_shorten 51 = .ok (.iload_n 3, 1) := by decide +kernel
theorem d_Mo_shorten_52 : decode c_Mo_shorten 52 = .ok (.imul, 1) := by decide +kernel
theorem d_Mo_shorten_53 : decode c_Mo_shorten 53 = .ok (.iload 4, 2) := by decide +kernel
theorem d_Mo_shorten_55 : decode c_Mo_shorten 55 = .ok (.iadd, 1) := by decide +kernel
theorem d_Mo_shorten_56 : decode c_Mo_shorten 56 = .ok (.iaload, 1) := by decide +kernel
theorem d_Mo_shorten_57 : decode c_Mo_shorten 57 = .ok (.istore 7, 2) := by decide +kernel
theorem d_Mo_shorten_59 : decode c_Mo_shorten 59 = .ok (.iload 5, 2) := by decide +kernel
theorem d_Mo_shorten_61 : decode c_Mo_shorten 61 = .ok (.ifCond .lt 12, 3) := by decide +kernel
theorem d_Mo_shorten_64 : decode c_Mo_shorten 64 = .ok (.iload 6, 2) := by decide +kernel
theorem d_Mo_shorten_66 : decode c_Mo_shorten 66 = .ok (.ifCond .lt 7, 3) := by decide +kernel
theorem d_Mo_shorten_69 : decode c_Mo_shorten 69 = .ok (.iconst 1, 1) := by decide +kernel
theorem d_Mo_shorten_70 : decode c_Mo_shorten 70 = .ok (.goto 4, 3) := by decide +kernel
theorem d_Mo_shorten_73 : decode c_Mo_shorten 73 = .ok (.iconst 0, 1) := by decide +kernel
theorem d_Mo_shorten_74 : decode c_Mo_shorten 74 = .ok (.istore 8, 2) := by decide +kernel
theorem d_Mo_shorten_76 : decode c_Mo_shorten 76 = .ok (.aload_n 0, 1) := by decide +kernel
theorem d_Mo_shorten_77 : decode c_Mo_shorten 77 = .ok (.getfield 22, 3) := by decide +kernel
theorem d_Mo_shorten_80 : decode c_Mo_shorten 80 = .ok (.bipush 12, 2) := by decide +kernel
theorem d_Mo_shorten_82 : decode c_Mo_shorten 82 = .ok (.iload_n 3, 1) := by decide +kernel
theorem d_Mo_shorten_83 : decode c_Mo_shorten 83 = .ok (.imul, 1) := by decide +kernel
theorem d_Mo_shorten_84 : decode c_Mo_shorten 84 = .ok (.iload 4, 2) := by decide +kernel
theorem d_Mo_shorten_86 : decode c_Mo_shorten 86 = .ok (.iadd, 1) := by decide +kernel
theorem d_Mo_shorten_87 : decode c_Mo_shorten 87 = .ok (.iload 8, 2) := by decide +kernel
theorem d_Mo_shorten_89 : decode c_Mo_shorten 89 = .ok (.ifCond .eq 30, 3) := by decide +kernel
theorem d_Mo_shorten_92 : decode c_Mo_shorten 92 = .ok (.iload 7, 2) := by decide +kernel
theorem d_Mo_shorten_94 : decode c_Mo_shorten 94 = .ok (.ifCond .lt 15, 3) := by decide +kernel
theorem d_Mo_shorten_97 : decode c_Mo_shorten 97 = .ok (.iload 5, 2) := by decide +kernel
theorem d_Mo_shorten_99 : decode c_Mo_shorten 99 = .ok (.iload 6, 2) := by decide +kernel
theorem d_Mo_shorten_101 : decode c_Mo_shorten 101 = .ok (.iadd, 1) := by decide +kernel
theorem d_Mo_shorten_102 : decode c_Mo_shorten 102 = .ok (.iconst 1, 1) := by decide +kernel
theorem d_Mo_shorten_103 : decode c_Mo_shorten 103 = .ok (.iadd, 1) := by decide +kernel
theorem d_Mo_shorten_104 : decode c_Mo_shorten 104 = .ok (.iload 7, 2) := by decide +kernel
theorem d_Mo_shorten_106 : decode c_Mo_shorten 106 = .ok (.if_icmp .ge 13, 3) := by decide +kernel
theorem d_Mo_shorten_109 : decode c_Mo_shorten 109 = .ok (.iload 5, 2) := by decide +kernel
theorem d_Mo_shorten_111 : decode c_Mo_shorten 111 = .ok (.iload 6, 2) := by decide +kernel
theorem d_Mo_shorten_113 : decode c_Mo_shorten 113 = .ok (.iadd, 1) := by decide +kernel
theorem d_Mo_shorten_114 : decode c_Mo_shorten 114 = .ok (.iconst 1, 1) := by decide +kernel
theorem d_Mo_shorten_115 : decode c_Mo_shorten 115 = .ok (.iadd, 1) := by decide +kernel
theorem d_Mo_shorten_116 : decode c_Mo_shorten 116 = .ok (.goto 5, 3) := by decide +kernel
theorem d_Mo_shorten_119 : decode c_Mo_shorten 119 = .ok (.iload 7, 2) := by decide +kernel
theorem d_Mo_shorten_121 : decode c_Mo_shorten 121 = .ok (.iastore, 1) := by decide +kernel
theorem d_Mo_shorten_122 : decode c_Mo_shorten 122 = .ok (.iinc 4 1, 3) := by decide +kernel
theorem d_Mo_shorten_125 : decode c_Mo_shorten 125 = .ok (.goto (-114), 3) := by decide +kernel
theorem d_Mo_shorten_128 : decode c_Mo_shorten 128 = .ok (.iinc 3 1, 3) := by decide +kernel
theorem d_Mo_shorten_131 : decode c_Mo_shorten 131 = .ok (.goto (-129), 3) := by decide +kernel
theorem d_Mo_shorten_134 : decode c_Mo_shorten 134 = .ok (.return_, 1) := by decide +kernel
theorem d_Mo_arrives_0 : decode c_Mo_arrives 0 = .ok (.aload_n 0, 1) := by decide +kernel
theorem d_Mo_arrives_1 : decode c_Mo_arrives 1 = .ok (.iload_n 1, 1) := by decide +kernel
theorem d_Mo_arrives_2 : decode c_Mo_arrives 2 = .ok (.i2l, 1) := by decide +kernel
theorem d_Mo_arrives_3 : decode c_Mo_arrives 3 = .ok (.lconst 0, 1) := by decide +kernel
theorem d_Mo_arrives_4 : decode c_Mo_arrives 4 = .ok (.ldc2_w 97, 3) := by decide +kernel
theorem d_Mo_arrives_7 : decode c_Mo_arrives 7 = .ok (.invokestatic 73, 3) := by decide +kernel
theorem d_Mo_arrives_10 : decode c_Mo_arrives 10 = .ok (.ifCond .eq 19, 3) := by decide +kernel
theorem d_Mo_arrives_13 : decode c_Mo_arrives 13 = .ok (.iload_n 2, 1) := by decide +kernel
theorem d_Mo_arrives_14 : decode c_Mo_arrives 14 = .ok (.i2l, 1) := by decide +kernel
theorem d_Mo_arrives_15 : decode c_Mo_arrives 15 = .ok (.lconst 1, 1) := by decide +kernel
theorem d_Mo_arrives_16 : decode c_Mo_arrives 16 = .ok (.ldc2_w 88, 3) := by decide +kernel
theorem d_Mo_arrives_19 : decode c_Mo_arrives 19 = .ok (.invokestatic 73, 3) := by decide +kernel
theorem d_Mo_arrives_22 : decode c_Mo_arrives 22 = .ok (.ifCond .eq 7, 3) := by decide +kernel
theorem d_Mo_arrives_25 : decode c_Mo_arrives 25 = .ok (.iconst 1, 1) := by decide +kernel
theorem d_Mo_arrives_26 : decode c_Mo_arrives 26 = .ok (.goto 4, 3) := by decide +kernel
theorem d_Mo_arrives_29 : decode c_Mo_arrives 29 = .ok (.iconst 0, 1) := by decide +kernel
theorem d_Mo_arrives_30 : decode c_Mo_arrives 30 = .ok (.aload_n 0, 1) := by decide +kernel
theorem d_Mo_arrives_31 : decode c_Mo_arrives 31 = .ok (.getfield 77, 3) := by decide +kernel
theorem d_Mo_arrives_34 : decode c_Mo_arrives 34 = .ok (.ifCond .ne 25, 3) := by decide +kernel
theorem d_Mo_arrives_37 : decode c_Mo_arrives 37 = .ok (.aload_n 0, 1) := by decide +kernel
theorem d_Mo_arrives_38 : decode c_Mo_arrives 38 = .ok (.getfield 65, 3) := by decide +kernel
theorem d_Mo_arrives_41 : decode c_Mo_arrives 41 = .ok (.ifCond .le 18, 3) := by decide +kernel
theorem d_Mo_arrives_44 : decode c_Mo_arrives 44 = .ok (.aload_n 0, 1) := by decide +kernel
theorem d_Mo_arrives_45 : decode c_Mo_arrives 45 = .ok (.getfield 68, 3) := by decide +kernel
theorem d_Mo_arrives_48 : decode c_Mo_arrives 48 = .ok (.iload_n 2, 1) := by decide +kernel
theorem d_Mo_arrives_49 : decode c_Mo_arrives 49 = .ok (.iadd, 1) := by decide +kernel
theorem d_Mo_arrives_50 : decode c_Mo_arrives 50 = .ok (.bipush 60, 2) := by decide +kernel
theorem d_Mo_arrives_52 : decode c_Mo_arrives 52 = .ok (.if_icmp .gt 7, 3) := by decide +kernel
theorem d_Mo_arrives_55 : decode c_Mo_arrives 55 = .ok (.iconst 1, 1) := by decide +kernel
theorem d_Mo_arrives_56 : decode c_Mo_arrives 56 = .ok (.goto 4, 3) := by decide +kernel
theorem d_Mo_arrives_59 : decode c_Mo_arrives 59 = .ok (.iconst 0, 1) := by decide +kernel
theorem d_Mo_arrives_60 : decode c_Mo_arrives 60 = .ok (.invokevirtual 80, 3) := by decide +kernel
theorem d_Mo_arrives_63 : decode c_Mo_arrives 63 = .ok (.ifCond .ne 5, 3) := by decide +kernel
theorem d_Mo_arrives_66 : decode c_Mo_arrives 66 = .ok (.iconst 0, 1) := by decide +kernel
theorem d_Mo_arrives_67 : decode c_Mo_arrives 67 = .ok (.ireturn, 1) := by decide +kernel
theorem d_Mo_arrives_68 : decode c_Mo_arrives 68 = .ok (.aload_n 0, 1) := by decide +kernel
theorem d_Mo_arrives_69 : decode c_Mo_arrives 69 = .ok (.getfield 68, 3) := by decide +kernel
theorem d_Mo_arrives_72 : decode c_Mo_arrives 72 = .ok (.istore_n 3, 1) := by decide +kernel
theorem d_Mo_arrives_73 : decode c_Mo_arrives 73 = .ok (.iload_n 3, 1) := by decide +kernel
theorem d_Mo_arrives_74 : decode c_Mo_arrives 74 = .ok (.ifCond .le 21, 3) := by decide +kernel
theorem d_Mo_arrives_77 : decode c_Mo_arrives 77 = .ok (.aload_n 0, 1) := by decide +kernel
theorem d_Mo_arrives_78 : decode c_Mo_arrives 78 = .ok (.getfield 43, 3) := by decide +kernel
theorem d_Mo_arrives_81 : decode c_Mo_arrives 81 = .ok (.iload_n 3, 1) := by decide +kernel
theorem d_Mo_arrives_82 : decode c_Mo_arrives 82 = .ok (.iconst 1, 1) := by decide +kernel
theorem d_Mo_arrives_83 : decode c_Mo_arrives 83 = .ok (.isub, 1) := by decide +kernel
theorem d_Mo_arrives_84 : decode c_Mo_arrives 84 = .ok (.iaload, 1) := by decide +kernel
theorem d_Mo_arrives_85 : decode c_Mo_arrives 85 = .ok (.iload_n 1, 1) := by decide +kernel
theorem d_Mo_arrives_86 : decode c_Mo_arrives 86 = .ok (.if_icmp .le 9, 3) := by decide +kernel
theorem d_Mo_arrives_89 : decode c_Mo_arrives 89 = .ok (.iinc 3 (-1), 3) := by decide +kernel
theorem d_Mo_arrives_92 : decode c_Mo_arrives 92 = .ok (.goto (-19), 3) := by decide +kernel
theorem d_Mo_arrives_95 : decode c_Mo_arrives 95 = .ok (.aload_n 0, 1) := by decide +kernel
theorem d_Mo_arrives_96 : decode c_Mo_arrives 96 = .ok (.getfield 68, 3) := by decide +kernel
theorem d_Mo_arrives_99 : decode c_Mo_arrives 99 = .ok (.iconst 1, 1) := by decide +kernel
theorem d_Mo_arrives_100 : decode c_Mo_arrives 100 = .ok (.isub, 1) := by decide +kernel
theorem d_Mo_arrives_101 : decode c_Mo_arrives 101 = .ok (.istore 4, 2) := by decide +kernel
theorem d_Mo_arrives_103 : decode c_Mo_arrives 103 = .ok (.iload 4, 2) := by decide +kernel
theorem d_Mo_arrives_105 : decode c_Mo_arrives 105 = .ok (.iload_n 3, 1) := by decide +kernel
theorem d_Mo_arrives_106 : decode c_Mo_arrives 106 = .ok (.if_icmp .lt 25, 3) := by decide +kernel
theorem d_Mo_arrives_109 : decode c_Mo_arrives 109 = .ok (.aload_n 0, 1) := by decide +kernel
theorem d_Mo_arrives_110 : decode c_Mo_arrives 110 = .ok (.getfield 43, 3) := by decide +kernel
theorem d_Mo_arrives_113 : decode c_Mo_arrives 113 = .ok (.iload 4, 2) := by decide +kernel
theorem d_Mo_arrives_115 : decode c_Mo_arrives 115 = .ok (.iload_n 2, 1) := by decide +kernel
theorem d_Mo_arrives_116 : decode c_Mo_arrives 116 = .ok (.iadd, 1) := by decide +kernel
end
section
theorem d_Mo_inThen_69 : decode c_Mo_inThen 69 = .ok (.istore_n 3, 1) := by decide +kernel
theorem d_Mo_inThen_70 : decode c_Mo_inThen 70 = .ok (.iinc 4 1, 3) := by decide +kernel
theorem d_Mo_inThen_73 : decode c_Mo_inThen 73 = .ok (.goto (-37), 3) := by decide +kernel
theorem d_Mo_inThen_76 : decode c_Mo_inThen 76 = .ok (.iload_n 3, 1) := by decide +kernel
theorem d_Mo_inThen_77 : decode c_Mo_inThen 77 = .ok (.ireturn, 1) := by decide +kernel
theorem d_Mo_through_0 : decode c_Mo_through 0 = .ok (.aload_n 0, 1) := by decide +kernel
theorem d_Mo_through_1 : decode c_Mo_through 1 = .ok (.iload_n 1, 1) := by decide +kernel
theorem d_Mo_through_2 : decode c_Mo_through 2 = .ok (.i2l, 1) := by decide +kernel
theorem d_Mo_through_3 : decode c_Mo_through 3 = .ok (.lconst 0, 1) := by decide +kernel
theorem d_Mo_through_4 : decode c_Mo_through 4 = .ok (.aload_n 0, 1) := by decide +kernel
theorem d_Mo_through_5 : decode c_Mo_through 5 = .ok (.getfield 90, 3) := by decide +kernel
theorem d_Mo_through_8 : decode c_Mo_through 8 = .ok (.i2l, 1) := by decide +kernel
theorem d_Mo_through_9 : decode c_Mo_through 9 = .ok (.lconst 1, 1) := by decide +kernel
theorem d_Mo_through_10 : decode c_Mo_through 10 = .ok (.lsub, 1) := by decide +kernel
theorem d_Mo_through_11 : decode c_Mo_through 11 = .ok (.invokestatic 73, 3) := by decide +kernel
theorem d_Mo_through_14 : decode c_Mo_through 14 = .ok (.iconst 1, 1) := by decide +kernel
theorem d_Mo_through_15 : decode c_Mo_through 15 = .ok (.invokevirtual 80, 3) := by decide +kernel
theorem d_Mo_through_18 : decode c_Mo_through 18 = .ok (.ifCond .eq 25, 3) := by decide +kernel
theorem d_Mo_through_21 : decode c_Mo_through 21 = .ok (.iload_n 2, 1) := by decide +kernel
theorem d_Mo_through_22 : decode c_Mo_through 22 = .ok (.ifCond .eq 12, 3) := by decide +kernel
theorem d_Mo_through_25 : decode c_Mo_through 25 = .ok (.aload_n 0, 1) := by decide +kernel
theorem d_Mo_through_26 : decode c_Mo_through 26 = .ok (.getfield 37, 3) := by decide +kernel
theorem d_Mo_through_29 : decode c_Mo_through 29 = .ok (.iload_n 1, 1) := by decide +kernel
theorem d_Mo_through_30 : decode c_Mo_through 30 = .ok (.iaload, 1) := by decide +kernel
theorem d_Mo_through_31 : decode c_Mo_through 31 = .ok (.goto 13, 3) := by decide +kernel
theorem d_Mo_through_34 : decode c_Mo_through 34 = .ok (.aload_n 0, 1) := by decide +kernel
theorem d_Mo_through_35 : decode c_Mo_through 35 = .ok (.getfield 40, 3) := by decide +kernel
theorem d_Mo_through_38 : decode c_Mo_through 38 = .ok (.iload_n 1, 1) := by decide +kernel
theorem d_Mo_through_39 : decode c_Mo_through 39 = .ok (.iaload, 1) := by decide +kernel
theorem d_Mo_through_40 : decode c_Mo_through 40 = .ok (.goto 4, 3) := by decide +kernel
theorem d_Mo_through_43 : decode c_Mo_through 43 = .ok (.iconst 0, 1) := by decide +kernel
theorem d_Mo_through_44 : decode c_Mo_through 44 = .ok (.ireturn, 1) := by decide +kernel
theorem d_Mo_distance_0 : decode c_Mo_distance 0 = .ok (.aload_n 0, 1) := by decide +kernel
theorem d_Mo_distance_1 : decode c_Mo_distance 1 = .ok (.aload_n 0, 1) := by decide +kernel
theorem d_Mo_distance_2 : decode c_Mo_distance 2 = .ok (.iload_n 1, 1) := by decide +kernel
theorem d_Mo_distance_3 : decode c_Mo_distance 3 = .ok (.invokevirtual 84, 3) := by decide +kernel
theorem d_Mo_distance_6 : decode c_Mo_distance 6 = .ok (.ifCond .eq 15, 3) := by decide +kernel
theorem d_Mo_distance_9 : decode c_Mo_distance 9 = .ok (.aload_n 0, 1) := by decide +kernel
theorem d_Mo_distance_10 : decode c_Mo_distance 10 = .ok (.iload_n 2, 1) := by decide +kernel
theorem d_Mo_distance_11 : decode c_Mo_distance 11 = .ok (.invokevirtual 84, 3) := by decide +kernel
theorem d_Mo_distance_14 : decode c_Mo_distance 14 = .ok (.ifCond .eq 7, 3) := by decide +kernel
theorem d_Mo_distance_17 : decode c_Mo_distance 17 = .ok (.iconst 1, 1) := by decide +kernel
theorem d_Mo_distance_18 : decode c_Mo_distance 18 = .ok (.goto 4, 3) := by decide +kernel
theorem d_Mo_distance_21 : decode c_Mo_distance 21 = .ok (.iconst 0, 1) := by decide +kernel
theorem d_Mo_distance_22 : decode c_Mo_distance 22 = .ok (.iconst 1, 1) := by decide +kernel
theorem d_Mo_distance_23 : decode c_Mo_distance 23 = .ok (.invokevirtual 80, 3) := by decide +kernel
theorem d_Mo_distance_26 : decode c_Mo_distance 26 = .ok (.ifCond .eq 17, 3) := by decide +kernel
theorem d_Mo_distance_29 : decode c_Mo_distance 29 = .ok (.aload_n 0, 1) := by decide +kernel
theorem d_Mo_distance_30 : decode c_Mo_distance 30 = .ok (.getfield 22, 3) := by decide +kernel
theorem d_Mo_distance_33 : decode c_Mo_distance 33 = .ok (.bipush 12, 2) := by decide +kernel
theorem d_Mo_distance_35 : decode c_Mo_distance 35 = .ok (.iload_n 1, 1) := by decide +kernel
theorem d_Mo_distance_36 : decode c_Mo_distance 36 = .ok (.imul, 1) := by decide +kernel
theorem d_Mo_distance_37 : decode c_Mo_distance 37 = .ok (.iload_n 2, 1) := by decide +kernel
theorem d_Mo_distance_38 : decode c_Mo_distance 38 = .ok (.iadd, 1) := by decide +kernel
theorem d_Mo_distance_39 : decode c_Mo_distance 39 = .ok (.iaload, 1) := by decide +kernel
theorem d_Mo_distance_40 : decode c_Mo_distance 40 = .ok (.goto 4, 3) := by decide +kernel
theorem d_Mo_distance_43 : decode c_Mo_distance 43 = .ok (.iconst 0, 1) := by decide +kernel
theorem d_Mo_distance_44 : decode c_Mo_distance 44 = .ok (.ireturn, 1) := by decide +kernel
theorem d_Mo_met_0 : decode c_Mo_met 0 = .ok (.aload_n 0, 1) := by decide +kernel
theorem d_Mo_met_1 : decode c_Mo_met 1 = .ok (.aload_n 0, 1) := by decide +kernel
theorem d_Mo_met_2 : decode c_Mo_met 2 = .ok (.iload_n 1, 1) := by decide +kernel
theorem d_Mo_met_3 : decode c_Mo_met 3 = .ok (.invokevirtual 150, 3) := by decide +kernel
theorem d_Mo_met_6 : decode c_Mo_met 6 = .ok (.ifCond .eq 20, 3) := by decide +kernel
theorem d_Mo_met_9 : decode c_Mo_met 9 = .ok (.aload_n 0, 1) := by decide +kernel
theorem d_Mo_met_10 : decode c_Mo_met 10 = .ok (.iload_n 2, 1) := by decide +kernel
theorem d_Mo_met_11 : decode c_Mo_met 11 = .ok (.invokevirtual 150, 3) := by decide +kernel
theorem d_Mo_met_14 : decode c_Mo_met 14 = .ok (.ifCond .eq 12, 3) := by decide +kernel
theorem d_Mo_met_17 : decode c_Mo_met 17 = .ok (.iload_n 1, 1) := by decide +kernel
theorem d_Mo_met_18 : decode c_Mo_met 18 = .ok (.iload_n 2, 1) := by decide +kernel
theorem d_Mo_met_19 : decode c_Mo_met 19 = .ok (.if_icmp .eq 7, 3) := by decide +kernel
theorem d_Mo_met_22 : decode c_Mo_met 22 = .ok (.iconst 1, 1) := by decide +kernel
theorem d_Mo_met_23 : decode c_Mo_met 23 = .ok (.goto 4, 3) := by decide +kernel
theorem d_Mo_met_26 : decode c_Mo_met 26 = .ok (.iconst 0, 1) := by decide +kernel
theorem d_Mo_met_27 : decode c_Mo_met 27 = .ok (.iconst 1, 1) := by decide +kernel
theorem d_Mo_met_28 : decode c_Mo_met 28 = .ok (.invokevirtual 80, 3) := by decide +kernel
theorem d_Mo_met_31 : decode c_Mo_met 31 = .ok (.ifCond .ne 5, 3) := by decide +kernel
theorem d_Mo_met_34 : decode c_Mo_met 34 = .ok (.iconst 0, 1) := by decide +kernel
theorem d_Mo_met_35 : decode c_Mo_met 35 = .ok (.ireturn, 1) := by decide +kernel
theorem d_Mo_met_36 : decode c_Mo_met 36 = .ok (.iconst 0, 1) := by decide +kernel
theorem d_Mo_met_37 : decode c_Mo_met 37 = .ok (.istore_n 3, 1) := by decide +kernel
theorem d_Mo_met_38 : decode c_Mo_met 38 = .ok (.iload_n 3, 1) := by decide +kernel
theorem d_Mo_met_39 : decode c_Mo_met 39 = .ok (.aload_n 0, 1) := by decide +kernel
theorem d_Mo_met_40 : decode c_Mo_met 40 = .ok (.getfield 77, 3) := by decide +kernel
theorem d_Mo_met_43 : decode c_Mo_met 43 = .ok (.if_icmp .ge 48, 3) := by decide +kernel
theorem d_Mo_met_46 : decode c_Mo_met 46 = .ok (.aload_n 0, 1) := by decide +kernel
theorem d_Mo_met_47 : decode c_Mo_met 47 = .ok (.getfield 53, 3) := by decide +kernel
theorem d_Mo_met_50 : decode c_Mo_met 50 = .ok (.sipush 2000, 3) := by decide +kernel
theorem d_Mo_met_53 : decode c_Mo_met 53 = .ok (.iload_n 1, 1) := by decide +kernel
theorem d_Mo_met_54 : decode c_Mo_met 54 = .ok (.imul, 1) := by decide +kernel
theorem d_Mo_met_55 : decode c_Mo_met 55 = .ok (.iload_n 3, 1) := by decide +kernel
theorem d_Mo_met_56 : decode c_Mo_met 56 = .ok (.iadd, 1) := by decide +kernel
theorem d_Mo_met_57 : decode c_Mo_met 57 = .ok (.baload, 1) := by decide +kernel
theorem d_Mo_met_58 : decode c_Mo_met 58 = .ok (.istore 4, 2) := by decide +kernel
theorem d_Mo_met_60 : decode c_Mo_met 60 = .ok (.iload 4, 2) := by decide +kernel
theorem d_Mo_met_62 : decode c_Mo_met 62 = .ok (.iconst (-1), 1) := by decide +kernel
theorem d_Mo_met_63 : decode c_Mo_met 63 = .ok (.if_icmp .eq 22, 3) := by decide +kernel
theorem d_Mo_met_66 : decode c_Mo_met 66 = .ok (.iload 4, 2) := by decide +kernel
theorem d_Mo_met_68 : decode c_Mo_met 68 = .ok (.aload_n 0, 1) := by decide +kernel
theorem d_Mo_met_69 : decode c_Mo_met 69 = .ok (.getfield 53, 3) := by decide +kernel
theorem d_Mo_met_72 : decode c_Mo_met 72 = .ok (.sipush 2000, 3) := by decide +kernel
theorem d_Mo_met_75 : decode c_Mo_met 75 = .ok (.iload_n 2, 1) := by decide +kernel
theorem d_Mo_met_76 : decode c_Mo_met 76 = .ok (.imul, 1) := by decide +kernel
theorem d_Mo_met_77 : decode c_Mo_met 77 = .ok (.iload_n 3, 1) := by decide +kernel
theorem d_Mo_met_78 : decode c_Mo_met 78 = .ok (.iadd, 1) := by decide +kernel
theorem d_Mo_met_79 : decode c_Mo_met 79 = .ok (.baload, 1) := by decide +kernel
theorem d_Mo_met_80 : decode c_Mo_met 80 = .ok (.if_icmp .ne 5, 3) := by decide +kernel
theorem d_Mo_met_83 : decode c_Mo_met 83 = .ok (.iload_n 3, 1) := by decide +kernel
theorem d_Mo_met_84 : decode c_Mo_met 84 = .ok (.ireturn, 1) := by decide +kernel
theorem d_Mo_met_85 : decode c_Mo_met 85 = .ok (.iinc 3 1, 3) := by decide +kernel
theorem d_Mo_met_88 : decode c_Mo_met 88 = .ok (.goto (-50), 3) := by decide +kernel
theorem d_Mo_met_91 : decode c_Mo_met 91 = .ok (.iconst (-1), 1) := by decide +kernel
theorem d_Mo_met_92 : decode c_Mo_met 92 = .ok (.ireturn, 1) := by decide +kernel
theorem d_Mo_entered_0 : decode c_Mo_entered 0 = .ok (.aload_n 0, 1) := by decide +kernel
theorem d_Mo_entered_1 : decode c_Mo_entered 1 = .ok (.iconst 0, 1) := by decide +kernel
theorem d_Mo_entered_2 : decode c_Mo_entered 2 = .ok (.putfield 61, 3) := by decide +kernel
theorem d_Mo_entered_5 : decode c_Mo_entered 5 = .ok (.iload_n 1, 1) := by decide +kernel
theorem d_Mo_entered_6 : decode c_Mo_entered 6 = .ok (.ifCond .eq 10, 3) := by decide +kernel
theorem d_Mo_entered_9 : decode c_Mo_entered 9 = .ok (.aload_n 0, 1) := by decide +kernel
theorem d_Mo_entered_10 : decode c_Mo_entered 10 = .ok (.getfield 132, 3) := by decide +kernel
theorem d_Mo_entered_13 : decode c_Mo_entered 13 = .ok (.goto 7, 3) := by decide +kernel
theorem d_Mo_entered_16 : decode c_Mo_entered 16 = .ok (.aload_n 0, 1) := by decide +kernel
theorem d_Mo_entered_17 : decode c_Mo_entered 17 = .ok (.getfield 135, 3) := by decide +kernel
theorem d_Mo_entered_20 : decode c_Mo_entered 20 = .ok (.ireturn, 1) := by decide +kernel
end
section
theorem d_Mo_arrives_117 : decode c_Mo_arrives 117 = .ok (.aload_n 0, 1) := by decide +kernel
theorem d_Mo_arrives_118 : decode c_Mo_arrives 118 = .ok (.getfield 43, 3) := by decide +kernel
theorem d_Mo_arrives_121 : decode c_Mo_arrives 121 = .ok (.iload 4, 2) := by decide +kernel
theorem d_Mo_arrives_123 : decode c_Mo_arrives 123 = .ok (.iaload, 1) := by decide +kernel
theorem d_Mo_arrives_124 : decode c_Mo_arrives 124 = .ok (.iastore, 1) := by decide +kernel
theorem d_Mo_arrives_125 : decode c_Mo_arrives 125 = .ok (.iinc 4 (-1), 3) := by decide +kernel
theorem d_Mo_arrives_128 : decode c_Mo_arrives 128 = .ok (.goto (-25), 3) := by decide +kernel
theorem d_Mo_arrives_131 : decode c_Mo_arrives 131 = .ok (.iload_n 3, 1) := by decide +kernel
theorem d_Mo_arrives_132 : decode c_Mo_arrives 132 = .ok (.istore 4, 2) := by decide +kernel
theorem d_Mo_arrives_134 : decode c_Mo_arrives 134 = .ok (.iload 4, 2) := by decide +kernel
theorem d_Mo_arrives_136 : decode c_Mo_arrives 136 = .ok (.iload_n 3, 1) := by decide +kernel
theorem d_Mo_arrives_137 : decode c_Mo_arrives 137 = .ok (.iload_n 2, 1) := by decide +kernel
theorem d_Mo_arrives_138 : decode c_Mo_arrives 138 = .ok (.iadd, 1) := by decide +kernel
theorem d_Mo_arrives_139 : decode c_Mo_arrives 139 = .ok (.if_icmp .ge 17, 3) := by decide +kernel
theorem d_Mo_arrives_142 : decode c_Mo_arrives 142 = .ok (.aload_n 0, 1) := by decide +kernel
theorem d_Mo_arrives_143 : decode c_Mo_arrives 143 = .ok (.getfield 43, 3) := by decide +kernel
theorem d_Mo_arrives_146 : decode c_Mo_arrives 146 = .ok (.iload 4, 2) := by decide +kernel
theorem d_Mo_arrives_148 : decode c_Mo_arrives 148 = .ok (.iload_n 1, 1) := by decide +kernel
theorem d_Mo_arrives_149 : decode c_Mo_arrives 149 = .ok (.iastore, 1) := by decide +kernel
theorem d_Mo_arrives_150 : decode c_Mo_arrives 150 = .ok (.iinc 4 1, 3) := by decide +kernel
theorem d_Mo_arrives_153 : decode c_Mo_arrives 153 = .ok (.goto (-19), 3) := by decide +kernel
theorem d_Mo_arrives_156 : decode c_Mo_arrives 156 = .ok (.aload_n 0, 1) := by decide +kernel
theorem d_Mo_arrives_157 : decode c_Mo_arrives 157 = .ok (.dup, 1) := by decide +kernel
theorem d_Mo_arrives_158 : decode c_Mo_arrives 158 = .ok (.getfield 68, 3) := by decide +kernel
theorem d_Mo_arrives_161 : decode c_Mo_arrives 161 = .ok (.iload_n 2, 1) := by decide +kernel
theorem d_Mo_arrives_162 : decode c_Mo_arrives 162 = .ok (.iadd, 1) := by decide +kernel
theorem d_Mo_arrives_163 : decode c_Mo_arrives 163 = .ok (.putfield 68, 3) := by decide +kernel
theorem d_Mo_arrives_166 : decode c_Mo_arrives 166 = .ok (.aload_n 0, 1) := by decide +kernel
theorem d_Mo_arrives_167 : decode c_Mo_arrives 167 = .ok (.getfield 68, 3) := by decide +kernel
theorem d_Mo_arrives_170 : decode c_Mo_arrives 170 = .ok (.ireturn, 1) := by decide +kernel
theorem d_Mo_drawn_0 : decode c_Mo_drawn 0 = .ok (.aload_n 0, 1) := by decide +kernel
theorem d_Mo_drawn_1 : decode c_Mo_drawn 1 = .ok (.getfield 57, 3) := by decide +kernel
theorem d_Mo_drawn_4 : decode c_Mo_drawn 4 = .ok (.ldc2_w 99, 3) := by decide +kernel
theorem d_Mo_drawn_7 : decode c_Mo_drawn 7 = .ok (.ldc2_w 101, 3) := by decide +kernel
theorem d_Mo_drawn_10 : decode c_Mo_drawn 10 = .ok (.iload_n 1, 1) := by decide +kernel
theorem d_Mo_drawn_11 : decode c_Mo_drawn 11 = .ok (.i2l, 1) := by decide +kernel
theorem d_Mo_drawn_12 : decode c_Mo_drawn 12 = .ok (.lmul, 1) := by decide +kernel
theorem d_Mo_drawn_13 : decode c_Mo_drawn 13 = .ok (.iload_n 2, 1) := by decide +kernel
theorem d_Mo_drawn_14 : decode c_Mo_drawn 14 = .ok (.i2l, 1) := by decide +kernel
theorem d_Mo_drawn_15 : decode c_Mo_drawn 15 = .ok (.ladd, 1) := by decide +kernel
theorem d_Mo_drawn_16 : decode c_Mo_drawn 16 = .ok (.lconst 1, 1) := by decide +kernel
theorem d_Mo_drawn_17 : decode c_Mo_drawn 17 = .ok (.ladd, 1) := by decide +kernel
theorem d_Mo_drawn_18 : decode c_Mo_drawn 18 = .ok (.lmul, 1) := by decide +kernel
theorem d_Mo_drawn_19 : decode c_Mo_drawn 19 = .ok (.ladd, 1) := by decide +kernel
theorem d_Mo_drawn_20 : decode c_Mo_drawn 20 = .ok (.lstore 4, 2) := by decide +kernel
theorem d_Mo_drawn_22 : decode c_Mo_drawn 22 = .ok (.lload 4, 2) := by decide +kernel
theorem d_Mo_drawn_24 : decode c_Mo_drawn 24 = .ok (.lload 4, 2) := by decide +kernel
theorem d_Mo_drawn_26 : decode c_Mo_drawn 26 = .ok (.bipush 30, 2) := by decide +kernel
theorem d_Mo_drawn_28 : decode c_Mo_drawn 28 = .ok (.lushr, 1) := by decide +kernel
theorem d_Mo_drawn_29 : decode c_Mo_drawn 29 = .ok (.lxor, 1) := by decide +kernel
theorem d_Mo_drawn_30 : decode c_Mo_drawn 30 = .ok (.ldc2_w 103, 3) := by decide +kernel
theorem d_Mo_drawn_33 : decode c_Mo_drawn 33 = .ok (.lmul, 1) := by decide +kernel
theorem d_Mo_drawn_34 : decode c_Mo_drawn 34 = .ok (.lstore 4, 2) := by decide +kernel
theorem d_Mo_drawn_36 : decode c_Mo_drawn 36 = .ok (.lload 4, 2) := by decide +kernel
theorem d_Mo_drawn_38 : decode c_Mo_drawn 38 = .ok (.lload 4, 2) := by decide +kernel
theorem d_Mo_drawn_40 : decode c_Mo_drawn 40 = .ok (.bipush 27, 2) := by decide +kernel
theorem d_Mo_drawn_42 : decode c_Mo_drawn 42 = .ok (.lushr, 1) := by decide +kernel
theorem d_Mo_drawn_43 : decode c_Mo_drawn 43 = .ok (.lxor, 1) := by decide +kernel
theorem d_Mo_drawn_44 : decode c_Mo_drawn 44 = .ok (.ldc2_w 105, 3) := by decide +kernel
theorem d_Mo_drawn_47 : decode c_Mo_drawn 47 = .ok (.lmul, 1) := by decide +kernel
theorem d_Mo_drawn_48 : decode c_Mo_drawn 48 = .ok (.lstore 4, 2) := by decide +kernel
theorem d_Mo_drawn_50 : decode c_Mo_drawn 50 = .ok (.lload 4, 2) := by decide +kernel
theorem d_Mo_drawn_52 : decode c_Mo_drawn 52 = .ok (.lload 4, 2) := by decide +kernel
theorem d_Mo_drawn_54 : decode c_Mo_drawn 54 = .ok (.bipush 31, 2) := by decide +kernel
theorem d_Mo_drawn_56 : decode c_Mo_drawn 56 = .ok (.lushr, 1) := by decide +kernel
theorem d_Mo_drawn_57 : decode c_Mo_drawn 57 = .ok (.lxor, 1) := by decide +kernel
theorem d_Mo_drawn_58 : decode c_Mo_drawn 58 = .ok (.lstore 4, 2) := by decide +kernel
theorem d_Mo_drawn_60 : decode c_Mo_drawn 60 = .ok (.lload 4, 2) := by decide +kernel
theorem d_Mo_drawn_62 : decode c_Mo_drawn 62 = .ok (.iconst 1, 1) := by decide +kernel
theorem d_Mo_drawn_63 : decode c_Mo_drawn 63 = .ok (.lushr, 1) := by decide +kernel
theorem d_Mo_drawn_64 : decode c_Mo_drawn 64 = .ok (.iload_n 3, 1) := by decide +kernel
theorem d_Mo_drawn_65 : decode c_Mo_drawn 65 = .ok (.i2l, 1) := by decide +kernel
theorem d_Mo_drawn_66 : decode c_Mo_drawn 66 = .ok (.lrem, 1) := by decide +kernel
theorem d_Mo_drawn_67 : decode c_Mo_drawn 67 = .ok (.l2i, 1) := by decide +kernel
theorem d_Mo_drawn_68 : decode c_Mo_drawn 68 = .ok (.ireturn, 1) := by decide +kernel
theorem d_Mo_draw_0 : decode c_Mo_draw 0 = .ok (.aload_n 0, 1) := by decide +kernel
theorem d_Mo_draw_1 : decode c_Mo_draw 1 = .ok (.iload_n 1, 1) := by decide +kernel
theorem d_Mo_draw_2 : decode c_Mo_draw 2 = .ok (.i2l, 1) := by decide +kernel
theorem d_Mo_draw_3 : decode c_Mo_draw 3 = .ok (.lconst 0, 1) := by decide +kernel
theorem d_Mo_draw_4 : decode c_Mo_draw 4 = .ok (.ldc2_w 107, 3) := by decide +kernel
theorem d_Mo_draw_7 : decode c_Mo_draw 7 = .ok (.invokestatic 73, 3) := by decide +kernel
theorem d_Mo_draw_10 : decode c_Mo_draw 10 = .ok (.ifCond .eq 31, 3) := by decide +kernel
theorem d_Mo_draw_13 : decode c_Mo_draw 13 = .ok (.iload_n 2, 1) := by decide +kernel
theorem d_Mo_draw_14 : decode c_Mo_draw 14 = .ok (.i2l, 1) := by decide +kernel
theorem d_Mo_draw_15 : decode c_Mo_draw 15 = .ok (.lconst 0, 1) := by decide +kernel
theorem d_Mo_draw_16 : decode c_Mo_draw 16 = .ok (.ldc2_w 109, 3) := by decide +kernel
theorem d_Mo_draw_19 : decode c_Mo_draw 19 = .ok (.invokestatic 73, 3) := by decide +kernel
theorem d_Mo_draw_22 : decode c_Mo_draw 22 = .ok (.ifCond .eq 19, 3) := by decide +kernel
theorem d_Mo_draw_25 : decode c_Mo_draw 25 = .ok (.iload_n 3, 1) := by decide +kernel
theorem d_Mo_draw_26 : decode c_Mo_draw 26 = .ok (.i2l, 1) := by decide +kernel
theorem d_Mo_draw_27 : decode c_Mo_draw 27 = .ok (.lconst 1, 1) := by decide +kernel
theorem d_Mo_draw_28 : decode c_Mo_draw 28 = .ok (.ldc2_w 111, 3) := by decide +kernel
theorem d_Mo_draw_31 : decode c_Mo_draw 31 = .ok (.invokestatic 73, 3) := by decide +kernel
theorem d_Mo_draw_34 : decode c_Mo_draw 34 = .ok (.ifCond .eq 7, 3) := by decide +kernel
theorem d_Mo_draw_37 : decode c_Mo_draw 37 = .ok (.iconst 1, 1) := by decide +kernel
theorem d_Mo_draw_38 : decode c_Mo_draw 38 = .ok (.goto 4, 3) := by decide +kernel
theorem d_Mo_draw_41 : decode c_Mo_draw 41 = .ok (.iconst 0, 1) := by decide +kernel
theorem d_Mo_draw_42 : decode c_Mo_draw 42 = .ok (.iconst 1, 1) := by decide +kernel
theorem d_Mo_draw_43 : decode c_Mo_draw 43 = .ok (.invokevirtual 80, 3) := by decide +kernel
theorem d_Mo_draw_46 : decode c_Mo_draw 46 = .ok (.ifCond .eq 13, 3) := by decide +kernel
theorem d_Mo_draw_49 : decode c_Mo_draw 49 = .ok (.aload_n 0, 1) := by decide +kernel
theorem d_Mo_draw_50 : decode c_Mo_draw 50 = .ok (.iload_n 1, 1) := by decide +kernel
theorem d_Mo_draw_51 : decode c_Mo_draw 51 = .ok (.iload_n 2, 1) := by decide +kernel
theorem d_Mo_draw_52 : decode c_Mo_draw 52 = .ok (.iload_n 3, 1) := by decide +kernel
theorem d_Mo_draw_53 : decode c_Mo_draw 53 = .ok (.invokevirtual 113, 3) := by decide +kernel
theorem d_Mo_draw_56 : decode c_Mo_draw 56 = .ok (.goto 4, 3) := by decide +kernel
theorem d_Mo_draw_59 : decode c_Mo_draw 59 = .ok (.iconst 0, 1) := by decide +kernel
theorem d_Mo_draw_60 : decode c_Mo_draw 60 = .ok (.ireturn, 1) := by decide +kernel
theorem d_Mo_tell_0 : decode c_Mo_tell 0 = .ok (.aload_n 0, 1) := by decide +kernel
theorem d_Mo_tell_1 : decode c_Mo_tell 1 = .ok (.getfield 43, 3) := by decide +kernel
theorem d_Mo_tell_4 : decode c_Mo_tell 4 = .ok (.iload_n 1, 1) := by decide +kernel
theorem d_Mo_tell_5 : decode c_Mo_tell 5 = .ok (.iaload, 1) := by decide +kernel
theorem d_Mo_tell_6 : decode c_Mo_tell 6 = .ok (.bipush 30, 2) := by decide +kernel
theorem d_Mo_tell_8 : decode c_Mo_tell 8 = .ok (.iadd, 1) := by decide +kernel
theorem d_Mo_tell_9 : decode c_Mo_tell 9 = .ok (.aload_n 0, 1) := by decide +kernel
theorem d_Mo_tell_10 : decode c_Mo_tell 10 = .ok (.iload_n 1, 1) := by decide +kernel
theorem d_Mo_tell_11 : decode c_Mo_tell 11 = .ok (.iconst 1, 1) := by decide +kernel
theorem d_Mo_tell_12 : decode c_Mo_tell 12 = .ok (.bipush 90, 2) := by decide +kernel
theorem d_Mo_tell_14 : decode c_Mo_tell 14 = .ok (.invokevirtual 113, 3) := by decide +kernel
theorem d_Mo_tell_17 : decode c_Mo_tell 17 = .ok (.iadd, 1) := by decide +kernel
theorem d_Mo_tell_18 : decode c_Mo_tell 18 = .ok (.istore_n 3, 1) := by decide +kernel
theorem d_Mo_tell_19 : decode c_Mo_tell 19 = .ok (.iload_n 2, 1) := by decide +kernel
theorem d_Mo_tell_20 : decode c_Mo_tell 20 = .ok (.tableswitch 81 0 4 #[36, 43, 54, 56, 70], 36) := by decide +kernel
theorem d_Mo_tell_56 : decode c_Mo_tell 56 = .ok (.aload_n 0, 1) := by decide +kernel
theorem d_Mo_tell_57 : decode c_Mo_tell 57 = .ok (.getfield 43, 3) := by decide +kernel
theorem d_Mo_tell_60 : decode c_Mo_tell 60 = .ok (.iload_n 1, 1) := by decide +kernel
theorem d_Mo_tell_61 : decode c_Mo_tell 61 = .ok (.iaload, 1) := by decide +kernel
theorem d_Mo_tell_62 : decode c_Mo_tell 62 = .ok (.ireturn, 1) := by decide +kernel
theorem d_Mo_tell_63 : decode c_Mo_tell 63 = .ok (.aload_n 0, 1) := by decide +kernel
theorem d_Mo_tell_64 : decode c_Mo_tell 64 = .ok (.iload_n 1, 1) := by decide +kernel
theorem d_Mo_tell_65 : decode c_Mo_tell 65 = .ok (.iconst 0, 1) := by decide +kernel
theorem d_Mo_tell_66 : decode c_Mo_tell 66 = .ok (.aload_n 0, 1) := by decide +kernel
theorem d_Mo_tell_67 : decode c_Mo_tell 67 = .ok (.getfield 65, 3) := by decide +kernel
theorem d_Mo_tell_70 : decode c_Mo_tell 70 = .ok (.invokevirtual 113, 3) := by decide +kernel
theorem d_Mo_tell_73 : decode c_Mo_tell 73 = .ok (.ireturn, 1) := by decide +kernel
theorem d_Mo_tell_74 : decode c_Mo_tell 74 = .ok (.iload_n 3, 1) := by decide +kernel
theorem d_Mo_tell_75 : decode c_Mo_tell 75 = .ok (.ireturn, 1) := by decide +kernel
theorem d_Mo_tell_76 : decode c_Mo_tell 76 = .ok (.iload_n 3, 1) := by decide +kernel
theorem d_Mo_tell_77 : decode c_Mo_tell 77 = .ok (.bipush 20, 2) := by decide +kernel
theorem d_Mo_tell_79 : decode c_Mo_tell 79 = .ok (.iadd, 1) := by decide +kernel
theorem d_Mo_tell_80 : decode c_Mo_tell 80 = .ok (.aload_n 0, 1) := by decide +kernel
theorem d_Mo_tell_81 : decode c_Mo_tell 81 = .ok (.iload_n 1, 1) := by decide +kernel
theorem d_Mo_tell_82 : decode c_Mo_tell 82 = .ok (.iconst 2, 1) := by decide +kernel
theorem d_Mo_tell_83 : decode c_Mo_tell 83 = .ok (.bipush 20, 2) := by decide +kernel
theorem d_Mo_tell_85 : decode c_Mo_tell 85 = .ok (.invokevirtual 113, 3) := by decide +kernel
theorem d_Mo_tell_88 : decode c_Mo_tell 88 = .ok (.iadd, 1) := by decide +kernel
theorem d_Mo_tell_89 : decode c_Mo_tell 89 = .ok (.ireturn, 1) := by decide +kernel
theorem d_Mo_tell_90 : decode c_Mo_tell 90 = .ok (.aload_n 0, 1) := by decide +kernel
theorem d_Mo_tell_91 : decode c_Mo_tell 91 = .ok (.iload_n 1, 1) := by decide +kernel
theorem d_Mo_tell_92 : decode c_Mo_tell 92 = .ok (.iconst 3, 1) := by decide +kernel
theorem d_Mo_tell_93 : decode c_Mo_tell 93 = .ok (.aload_n 0, 1) := by decide +kernel
theorem d_Mo_tell_94 : decode c_Mo_tell 94 = .ok (.getfield 65, 3) := by decide +kernel
theorem d_Mo_tell_97 : decode c_Mo_tell 97 = .ok (.invokevirtual 113, 3) := by decide +kernel
theorem d_Mo_tell_100 : decode c_Mo_tell 100 = .ok (.ireturn, 1) := by decide +kernel
theorem d_Mo_tell_101 : decode c_Mo_tell 101 = .ok (.aload_n 0, 1) := by decide +kernel
theorem d_Mo_tell_102 : decode c_Mo_tell 102 = .ok (.getfield 43, 3) := by decide +kernel
theorem d_Mo_tell_105 : decode c_Mo_tell 105 = .ok (.iload_n 1, 1) := by decide +kernel
theorem d_Mo_tell_106 : decode c_Mo_tell 106 = .ok (.iaload, 1) := by decide +kernel
theorem d_Mo_tell_107 : decode c_Mo_tell 107 = .ok (.sipush 200, 3) := by decide +kernel
theorem d_Mo_tell_110 : decode c_Mo_tell 110 = .ok (.iadd, 1) := by decide +kernel
theorem d_Mo_tell_111 : decode c_Mo_tell 111 = .ok (.aload_n 0, 1) := by decide +kernel
theorem d_Mo_tell_112 : decode c_Mo_tell 112 = .ok (.iload_n 1, 1) := by decide +kernel
theorem d_Mo_tell_113 : decode c_Mo_tell 113 = .ok (.iconst 4, 1) := by decide +kernel
theorem d_Mo_tell_114 : decode c_Mo_tell 114 = .ok (.sipush 200, 3) := by decide +kernel
theorem d_Mo_tell_117 : decode c_Mo_tell 117 = .ok (.invokevirtual 113, 3) := by decide +kernel
theorem d_Mo_tell_120 : decode c_Mo_tell 120 = .ok (.iadd, 1) := by decide +kernel
theorem d_Mo_tell_121 : decode c_Mo_tell 121 = .ok (.ireturn, 1) := by decide +kernel
theorem d_Mo_wants_0 : decode c_Mo_wants 0 = .ok (.aload_n 0, 1) := by decide +kernel
theorem d_Mo_wants_1 : decode c_Mo_wants 1 = .ok (.getfield 77, 3) := by decide +kernel
theorem d_Mo_wants_4 : decode c_Mo_wants 4 = .ok (.aload_n 0, 1) := by decide +kernel
theorem d_Mo_wants_5 : decode c_Mo_wants 5 = .ok (.iload_n 1, 1) := by decide +kernel
theorem d_Mo_wants_6 : decode c_Mo_wants 6 = .ok (.iconst 5, 1) := by decide +kernel
theorem d_Mo_wants_7 : decode c_Mo_wants 7 = .ok (.invokevirtual 117, 3) := by decide +kernel
theorem d_Mo_wants_10 : decode c_Mo_wants 10 = .ok (.if_icmp .lt 5, 3) := by decide +kernel
theorem d_Mo_wants_13 : decode c_Mo_wants 13 = .ok (.iconst (-1), 1) := by decide +kernel
theorem d_Mo_wants_14 : decode c_Mo_wants 14 = .ok (.ireturn, 1) := by decide +kernel
theorem d_Mo_wants_15 : decode c_Mo_wants 15 = .ok (.aload_n 0, 1) := by decide +kernel
theorem d_Mo_wants_16 : decode c_Mo_wants 16 = .ok (.getfield 77, 3) := by decide +kernel
theorem d_Mo_wants_19 : decode c_Mo_wants 19 = .ok (.aload_n 0, 1) := by decide +kernel
theorem d_Mo_wants_20 : decode c_Mo_wants 20 = .ok (.iload_n 1, 1) := by decide +kernel
theorem d_Mo_wants_21 : decode c_Mo_wants 21 = .ok (.iconst 2, 1) := by decide +kernel
theorem d_Mo_wants_22 : decode c_Mo_wants 22 = .ok (.invokevirtual 117, 3) := by decide +kernel
theorem d_Mo_wants_25 : decode c_Mo_wants 25 = .ok (.if_icmp .lt 25, 3) := by decide +kernel
theorem d_Mo_wants_28 : decode c_Mo_wants 28 = .ok (.aload_n 0, 1) := by decide +kernel
theorem d_Mo_wants_29 : decode c_Mo_wants 29 = .ok (.getfield 77, 3) := by decide +kernel
theorem d_Mo_wants_32 : decode c_Mo_wants 32 = .ok (.aload_n 0, 1) := by decide +kernel
theorem d_Mo_wants_33 : decode c_Mo_wants 33 = .ok (.iload_n 1, 1) := by decide +kernel
theorem d_Mo_wants_34 : decode c_Mo_wants 34 = .ok (.iconst 3, 1) := by decide +kernel
theorem d_Mo_wants_35 : decode c_Mo_wants 35 = .ok (.invokevirtual 117, 3) := by decide +kernel
theorem d_Mo_wants_38 : decode c_Mo_wants 38 = .ok (.if_icmp .ge 12, 3) := by decide +kernel
theorem d_Mo_wants_41 : decode c_Mo_wants 41 = .ok (.aload_n 0, 1) := by decide +kernel
theorem d_Mo_wants_42 : decode c_Mo_wants 42 = .ok (.iload_n 1, 1) := by decide +kernel
theorem d_Mo_wants_43 : decode c_Mo_wants 43 = .ok (.iconst 4, 1) := by decide +kernel
theorem d_Mo_wants_44 : decode c_Mo_wants 44 = .ok (.invokevirtual 117, 3) := by decide +kernel
theorem d_Mo_wants_47 : decode c_Mo_wants 47 = .ok (.goto 9, 3) := by decide +kernel
theorem d_Mo_wants_50 : decode c_Mo_wants 50 = .ok (.aload_n 0, 1) := by decide +kernel
theorem d_Mo_wants_51 : decode c_Mo_wants 51 = .ok (.iload_n 1, 1) := by decide +kernel
theorem d_Mo_wants_52 : decode c_Mo_wants 52 = .ok (.iconst 1, 1) := by decide +kernel
theorem d_Mo_wants_53 : decode c_Mo_wants 53 = .ok (.invokevirtual 117, 3) := by decide +kernel
theorem d_Mo_wants_56 : decode c_Mo_wants 56 = .ok (.ireturn, 1) := by decide +kernel
theorem d_Mo_goes_0 : decode c_Mo_goes 0 = .ok (.iload_n 2, 1) := by decide +kernel
theorem d_Mo_goes_1 : decode c_Mo_goes 1 = .ok (.iconst (-1), 1) := by decide +kernel
theorem d_Mo_goes_2 : decode c_Mo_goes 2 = .ok (.if_icmp .eq 20, 3) := by decide +kernel
theorem d_Mo_goes_5 : decode c_Mo_goes 5 = .ok (.aload_n 0, 1) := by decide +kernel
theorem d_Mo_goes_6 : decode c_Mo_goes 6 = .ok (.getfield 13, 3) := by decide +kernel
theorem d_Mo_goes_9 : decode c_Mo_goes 9 = .ok (.iload_n 2, 1) := by decide +kernel
theorem d_Mo_goes_10 : decode c_Mo_goes 10 = .ok (.iaload, 1) := by decide +kernel
theorem d_Mo_goes_11 : decode c_Mo_goes 11 = .ok (.aload_n 0, 1) := by decide +kernel
theorem d_Mo_goes_12 : decode c_Mo_goes 12 = .ok (.getfield 7, 3) := by decide +kernel
theorem d_Mo_goes_15 : decode c_Mo_goes 15 = .ok (.iload_n 2, 1) := by decide +kernel
theorem d_Mo_goes_16 : decode c_Mo_goes 16 = .ok (.iaload, 1) := by decide +kernel
theorem d_Mo_goes_17 : decode c_Mo_goes 17 = .ok (.if_icmp .lt 5, 3) := by decide +kernel
theorem d_Mo_goes_20 : decode c_Mo_goes 20 = .ok (.iconst 0, 1) := by decide +kernel
theorem d_Mo_goes_21 : decode c_Mo_goes 21 = .ok (.ireturn, 1) := by decide +kernel
theorem d_Mo_goes_22 : decode c_Mo_goes 22 = .ok (.aload_n 0, 1) := by decide +kernel
theorem d_Mo_goes_23 : decode c_Mo_goes 23 = .ok (.getfield 46, 3) := by decide +kernel
theorem d_Mo_goes_26 : decode c_Mo_goes 26 = .ok (.iload_n 1, 1) := by decide +kernel
theorem d_Mo_goes_27 : decode c_Mo_goes 27 = .ok (.iaload, 1) := by decide +kernel
theorem d_Mo_goes_28 : decode c_Mo_goes 28 = .ok (.iconst (-1), 1) := by decide +kernel
theorem d_Mo_goes_29 : decode c_Mo_goes 29 = .ok (.if_icmp .eq 18, 3) := by decide +kernel
theorem d_Mo_goes_32 : decode c_Mo_goes 32 = .ok (.aload_n 0, 1) := by decide +kernel
theorem d_Mo_goes_33 : decode c_Mo_goes 33 = .ok (.getfield 13, 3) := by decide +kernel
theorem d_Mo_goes_36 : decode c_Mo_goes 36 = .ok (.aload_n 0, 1) := by decide +kernel
theorem d_Mo_goes_37 : decode c_Mo_goes 37 = .ok (.getfield 46, 3) := by decide +kernel
theorem d_Mo_goes_40 : decode c_Mo_goes 40 = .ok (.iload_n 1, 1) := by decide +kernel
theorem d_Mo_goes_41 : decode c_Mo_goes 41 = .ok (.iaload, 1) := by decide +kernel
theorem d_Mo_goes_42 : decode c_Mo_goes 42 = .ok (.dup2, 1) := by decide +kernel
theorem d_Mo_goes_43 : decode c_Mo_goes 43 = .ok (.iaload, 1) := by decide +kernel
theorem d_Mo_goes_44 : decode c_Mo_goes 44 = .ok (.iconst 1, 1) := by decide +kernel
theorem d_Mo_goes_45 : decode c_Mo_goes 45 = .ok (.isub, 1) := by decide +kernel
theorem d_Mo_goes_46 : decode c_Mo_goes 46 = .ok (.iastore, 1) := by decide +kernel
theorem d_Mo_goes_47 : decode c_Mo_goes 47 = .ok (.iload_n 2, 1) := by decide +kernel
theorem d_Mo_goes_48 : decode c_Mo_goes 48 = .ok (.iconst (-1), 1) := by decide +kernel
theorem d_Mo_goes_49 : decode c_Mo_goes 49 = .ok (.if_icmp .eq 13, 3) := by decide +kernel
theorem d_Mo_goes_52 : decode c_Mo_goes 52 = .ok (.aload_n 0, 1) := by decide +kernel
theorem d_Mo_goes_53 : decode c_Mo_goes 53 = .ok (.getfield 13, 3) := by decide +kernel
theorem d_Mo_goes_56 : decode c_Mo_goes 56 = .ok (.iload_n 2, 1) := by decide +kernel
theorem d_Mo_goes_57 : decode c_Mo_goes 57 = .ok (.dup2, 1) := by decide +kernel
theorem d_Mo_goes_58 : decode c_Mo_goes 58 = .ok (.iaload, 1) := by decide +kernel
theorem d_Mo_goes_59 : decode c_Mo_goes 59 = .ok (.iconst 1, 1) := by decide +kernel
theorem d_Mo_goes_60 : decode c_Mo_goes 60 = .ok (.iadd, 1) := by decide +kernel
theorem d_Mo_goes_61 : decode c_Mo_goes 61 = .ok (.iastore, 1) := by decide +kernel
theorem d_Mo_goes_62 : decode c_Mo_goes 62 = .ok (.aload_n 0, 1) := by decide +kernel
theorem d_Mo_goes_63 : decode c_Mo_goes 63 = .ok (.getfield 46, 3) := by decide +kernel
theorem d_Mo_goes_66 : decode c_Mo_goes 66 = .ok (.iload_n 1, 1) := by decide +kernel
theorem d_Mo_goes_67 : decode c_Mo_goes 67 = .ok (.iload_n 2, 1) := by decide +kernel
theorem d_Mo_goes_68 : decode c_Mo_goes 68 = .ok (.iastore, 1) := by decide +kernel
theorem d_Mo_goes_69 : decode c_Mo_goes 69 = .ok (.iconst 1, 1) := by decide +kernel
theorem d_Mo_goes_70 : decode c_Mo_goes 70 = .ok (.ireturn, 1) := by decide +kernel
theorem d_Mo_doorOf_0 : decode c_Mo_doorOf 0 = .ok (.aload_n 0, 1) := by decide +kernel
theorem d_Mo_doorOf_1 : decode c_Mo_doorOf 1 = .ok (.getfield 22, 3) := by decide +kernel
theorem d_Mo_doorOf_4 : decode c_Mo_doorOf 4 = .ok (.bipush 12, 2) := by decide +kernel
theorem d_Mo_doorOf_6 : decode c_Mo_doorOf 6 = .ok (.iload_n 1, 1) := by decide +kernel
theorem d_Mo_doorOf_7 : decode c_Mo_doorOf 7 = .ok (.imul, 1) := by decide +kernel
theorem d_Mo_doorOf_8 : decode c_Mo_doorOf 8 = .ok (.iload_n 2, 1) := by decide +kernel
theorem d_Mo_doorOf_9 : decode c_Mo_doorOf 9 = .ok (.iadd, 1) := by decide +kernel
theorem d_Mo_doorOf_10 : decode c_Mo_doorOf 10 = .ok (.iaload, 1) := by decide +kernel
theorem d_Mo_doorOf_11 : decode c_Mo_doorOf 11 = .ok (.istore_n 3, 1) := by decide +kernel
theorem d_Mo_doorOf_12 : decode c_Mo_doorOf 12 = .ok (.iconst 0, 1) := by decide +kernel
theorem d_Mo_doorOf_13 : decode c_Mo_doorOf 13 = .ok (.istore 4, 2) := by decide +kernel
theorem d_Mo_doorOf_15 : decode c_Mo_doorOf 15 = .ok (.iload 4, 2) := by decide +kernel
theorem d_Mo_doorOf_17 : decode c_Mo_doorOf 17 = .ok (.aload_n 0, 1) := by decide +kernel
theorem d_Mo_doorOf_18 : decode c_Mo_doorOf 18 = .ok (.getfield 90, 3) := by decide +kernel
theorem d_Mo_doorOf_21 : decode c_Mo_doorOf 21 = .ok (.if_icmp .ge 98, 3) := by decide +kernel
theorem d_Mo_doorOf_24 : decode c_Mo_doorOf 24 = .ok (.iload_n 3, 1) := by decide +kernel
theorem d_Mo_doorOf_25 : decode c_Mo_doorOf 25 = .ok (.ifCond .le 94, 3) := by decide +kernel
theorem d_Mo_doorOf_28 : decode c_Mo_doorOf 28 = .ok (.aload_n 0, 1) := by decide +kernel
theorem d_Mo_doorOf_29 : decode c_Mo_doorOf 29 = .ok (.getfield 25, 3) := by decide +kernel
theorem d_Mo_doorOf_32 : decode c_Mo_doorOf 32 = .ok (.iload 4, 2) := by decide +kernel
theorem d_Mo_doorOf_34 : decode c_Mo_doorOf 34 = .ok (.iaload, 1) := by decide +kernel
theorem d_Mo_doorOf_35 : decode c_Mo_doorOf 35 = .ok (.iload_n 1, 1) := by decide +kernel
theorem d_Mo_doorOf_36 : decode c_Mo_doorOf 36 = .ok (.if_icmp .ne 13, 3) := by decide +kernel
theorem d_Mo_doorOf_39 : decode c_Mo_doorOf 39 = .ok (.aload_n 0, 1) := by decide +kernel
theorem d_Mo_doorOf_40 : decode c_Mo_doorOf 40 = .ok (.getfield 28, 3) := by decide +kernel
theorem d_Mo_doorOf_43 : decode c_Mo_doorOf 43 = .ok (.iload 4, 2) := by decide +kernel
theorem d_Mo_doorOf_45 : decode c_Mo_doorOf 45 = .ok (.iaload, 1) := by decide +kernel
theorem d_Mo_doorOf_46 : decode c_Mo_doorOf 46 = .ok (.goto 25, 3) := by decide +kernel
theorem d_Mo_doorOf_49 : decode c_Mo_doorOf 49 = .ok (.aload_n 0, 1) := by decide +kernel
theorem d_Mo_doorOf_50 : decode c_Mo_doorOf 50 = .ok (.getfield 28, 3) := by decide +kernel
theorem d_Mo_doorOf_53 : decode c_Mo_doorOf 53 = .ok (.iload 4, 2) := by decide +kernel
theorem d_Mo_doorOf_55 : decode c_Mo_doorOf 55 = .ok (.iaload, 1) := by decide +kernel
theorem d_Mo_doorOf_56 : decode c_Mo_doorOf 56 = .ok (.iload_n 1, 1) := by decide +kernel
theorem d_Mo_doorOf_57 : decode c_Mo_doorOf 57 = .ok (.if_icmp .ne 13, 3) := by decide +kernel
theorem d_Mo_doorOf_60 : decode c_Mo_doorOf 60 = .ok (.aload_n 0, 1) := by decide +kernel
theorem d_Mo_doorOf_61 : decode c_Mo_doorOf 61 = .ok (.getfield 25, 3) := by decide +kernel
theorem d_Mo_doorOf_64 : decode c_Mo_doorOf 64 = .ok (.iload 4, 2) := by decide +kernel
theorem d_Mo_doorOf_66 : decode c_Mo_doorOf 66 = .ok (.iaload, 1) := by decide +kernel
theorem d_Mo_doorOf_67 : decode c_Mo_doorOf 67 = .ok (.goto 4, 3) := by decide +kernel
theorem d_Mo_doorOf_70 : decode c_Mo_doorOf 70 = .ok (.iconst (-1), 1) := by decide +kernel
theorem d_Mo_doorOf_71 : decode c_Mo_doorOf 71 = .ok (.istore 5, 2) := by decide +kernel
theorem d_Mo_doorOf_73 : decode c_Mo_doorOf 73 = .ok (.iload 5, 2) := by decide +kernel
theorem d_Mo_doorOf_75 : decode c_Mo_doorOf 75 = .ok (.iconst (-1), 1) := by decide +kernel
theorem d_Mo_doorOf_76 : decode c_Mo_doorOf 76 = .ok (.if_icmp .eq 37, 3) := by decide +kernel
theorem d_Mo_doorOf_79 : decode c_Mo_doorOf 79 = .ok (.aload_n 0, 1) := by decide +kernel
theorem d_Mo_doorOf_80 : decode c_Mo_doorOf 80 = .ok (.getfield 22, 3) := by decide +kernel
theorem d_Mo_doorOf_83 : decode c_Mo_doorOf 83 = .ok (.bipush 12, 2) := by decide +kernel
theorem d_Mo_doorOf_85 : decode c_Mo_doorOf 85 = .ok (.iload 5, 2) := by decide +kernel
theorem d_Mo_doorOf_87 : decode c_Mo_doorOf 87 = .ok (.imul, 1) := by decide +kernel
theorem d_Mo_doorOf_88 : decode c_Mo_doorOf 88 = .ok (.iload_n 2, 1) := by decide +kernel
theorem d_Mo_doorOf_89 : decode c_Mo_doorOf 89 = .ok (.iadd, 1) := by decide +kernel
theorem d_Mo_doorOf_90 : decode c_Mo_doorOf 90 = .ok (.iaload, 1) := by decide +kernel
theorem d_Mo_doorOf_91 : decode c_Mo_doorOf 91 = .ok (.ifCond .lt 22, 3) := by decide +kernel
theorem d_Mo_doorOf_94 : decode c_Mo_doorOf 94 = .ok (.aload_n 0, 1) := by decide +kernel
theorem d_Mo_doorOf_95 : decode c_Mo_doorOf 95 = .ok (.getfield 22, 3) := by decide +kernel
theorem d_Mo_doorOf_98 : decode c_Mo_doorOf 98 = .ok (.bipush 12, 2) := by decide +kernel
theorem d_Mo_doorOf_100 : decode c_Mo_doorOf 100 = .ok (.iload 5, 2) := by decide +kernel
theorem d_Mo_doorOf_102 : decode c_Mo_doorOf 102 = .ok (.imul, 1) := by decide +kernel
theorem d_Mo_doorOf_103 : decode c_Mo_doorOf 103 = .ok (.iload_n 2, 1) := by decide +kernel
theorem d_Mo_doorOf_104 : decode c_Mo_doorOf 104 = .ok (.iadd, 1) := by decide +kernel
theorem d_Mo_doorOf_105 : decode c_Mo_doorOf 105 = .ok (.iaload, 1) := by decide +kernel
theorem d_Mo_doorOf_106 : decode c_Mo_doorOf 106 = .ok (.iload_n 3, 1) := by decide +kernel
theorem d_Mo_doorOf_107 : decode c_Mo_doorOf 107 = .ok (.if_icmp .ge 6, 3) := by decide +kernel
theorem d_Mo_doorOf_110 : decode c_Mo_doorOf 110 = .ok (.iload 4, 2) := by decide +kernel
theorem d_Mo_doorOf_112 : decode c_Mo_doorOf 112 = .ok (.ireturn, 1) := by decide +kernel
theorem d_Mo_doorOf_113 : decode c_Mo_doorOf 113 = .ok (.iinc 4 1, 3) := by decide +kernel
theorem d_Mo_doorOf_116 : decode c_Mo_doorOf 116 = .ok (.goto (-101), 3) := by decide +kernel
theorem d_Mo_doorOf_119 : decode c_Mo_doorOf 119 = .ok (.iconst (-1), 1) := by decide +kernel
theorem d_Mo_doorOf_120 : decode c_Mo_doorOf 120 = .ok (.ireturn, 1) := by decide +kernel
theorem d_Mo_throughDoor_0 : decode c_Mo_throughDoor 0 = .ok (.aload_n 0, 1) := by decide +kernel
theorem d_Mo_throughDoor_1 : decode c_Mo_throughDoor 1 = .ok (.aload_n 0, 1) := by decide +kernel
theorem d_Mo_throughDoor_2 : decode c_Mo_throughDoor 2 = .ok (.getfield 46, 3) := by decide +kernel
theorem d_Mo_throughDoor_5 : decode c_Mo_throughDoor 5 = .ok (.iload_n 1, 1) := by decide +kernel
theorem d_Mo_throughDoor_6 : decode c_Mo_throughDoor 6 = .ok (.iaload, 1) := by decide +kernel
theorem d_Mo_throughDoor_7 : decode c_Mo_throughDoor 7 = .ok (.iload_n 2, 1) := by decide +kernel
theorem d_Mo_throughDoor_8 : decode c_Mo_throughDoor 8 = .ok (.invokevirtual 121, 3) := by decide +kernel
theorem d_Mo_throughDoor_11 : decode c_Mo_throughDoor 11 = .ok (.istore_n 3, 1) := by decide +kernel
theorem d_Mo_throughDoor_12 : decode c_Mo_throughDoor 12 = .ok (.iload_n 3, 1) := by decide +kernel
theorem d_Mo_throughDoor_13 : decode c_Mo_throughDoor 13 = .ok (.iconst (-1), 1) := by decide +kernel
theorem d_Mo_throughDoor_14 : decode c_Mo_throughDoor 14 = .ok (.if_icmp .ne 4, 3) := by decide +kernel
theorem d_Mo_throughDoor_17 : decode c_Mo_throughDoor 17 = .ok (.return_, 1) := by decide +kernel
theorem d_Mo_throughDoor_18 : decode c_Mo_throughDoor 18 = .ok (.aload_n 0, 1) := by decide +kernel
theorem d_Mo_throughDoor_19 : decode c_Mo_throughDoor 19 = .ok (.getfield 25, 3) := by decide +kernel
theorem d_Mo_throughDoor_22 : decode c_Mo_throughDoor 22 = .ok (.iload_n 3, 1) := by decide +kernel
theorem d_Mo_throughDoor_23 : decode c_Mo_throughDoor 23 = .ok (.iaload, 1) := by decide +kernel
theorem d_Mo_throughDoor_24 : decode c_Mo_throughDoor 24 = .ok (.aload_n 0, 1) := by decide +kernel
theorem d_Mo_throughDoor_25 : decode c_Mo_throughDoor 25 = .ok (.getfield 46, 3) := by decide +kernel
theorem d_Mo_throughDoor_28 : decode c_Mo_throughDoor 28 = .ok (.iload_n 1, 1) := by decide +kernel
theorem d_Mo_throughDoor_29 : decode c_Mo_throughDoor 29 = .ok (.iaload, 1) := by decide +kernel
theorem d_Mo_throughDoor_30 : decode c_Mo_throughDoor 30 = .ok (.if_icmp .ne 7, 3) := by decide +kernel
theorem d_Mo_throughDoor_33 : decode c_Mo_throughDoor 33 = .ok (.iconst 1, 1) := by decide +kernel
theorem d_Mo_throughDoor_34 : decode c_Mo_throughDoor 34 = .ok (.goto 4, 3) := by decide +kernel
theorem d_Mo_throughDoor_37 : decode c_Mo_throughDoor 37 = .ok (.iconst 0, 1) := by decide +kernel
theorem d_Mo_throughDoor_38 : decode c_Mo_throughDoor 38 = .ok (.istore 4, 2) := by decide +kernel
theorem d_Mo_throughDoor_40 : decode c_Mo_throughDoor 40 = .ok (.aload_n 0, 1) := by decide +kernel
theorem d_Mo_throughDoor_41 : decode c_Mo_throughDoor 41 = .ok (.getfield 34, 3) := by decide +kernel
theorem d_Mo_throughDoor_44 : decode c_Mo_throughDoor 44 = .ok (.iload_n 3, 1) := by decide +kernel
theorem d_Mo_throughDoor_45 : decode c_Mo_throughDoor 45 = .ok (.iaload, 1) := by decide +kernel
theorem d_Mo_throughDoor_46 : decode c_Mo_throughDoor 46 = .ok (.aload_n 0, 1) := by decide +kernel
theorem d_Mo_throughDoor_47 : decode c_Mo_throughDoor 47 = .ok (.getfield 31, 3) := by decide +kernel
theorem d_Mo_throughDoor_50 : decode c_Mo_throughDoor 50 = .ok (.iload_n 3, 1) := by decide +kernel
theorem d_Mo_throughDoor_51 : decode c_Mo_throughDoor 51 = .ok (.iaload, 1) := by decide +kernel
theorem d_Mo_throughDoor_52 : decode c_Mo_throughDoor 52 = .ok (.if_icmp .ge 31, 3) := by decide +kernel
theorem d_Mo_throughDoor_55 : decode c_Mo_throughDoor 55 = .ok (.aload_n 0, 1) := by decide +kernel
theorem d_Mo_throughDoor_56 : decode c_Mo_throughDoor 56 = .ok (.iload_n 1, 1) := by decide +kernel
theorem d_Mo_throughDoor_57 : decode c_Mo_throughDoor 57 = .ok (.iload 4, 2) := by decide +kernel
theorem d_Mo_throughDoor_59 : decode c_Mo_throughDoor 59 = .ok (.ifCond .eq 12, 3) := by decide +kernel
theorem d_Mo_throughDoor_62 : decode c_Mo_throughDoor 62 = .ok (.aload_n 0, 1) := by decide +kernel
theorem d_Mo_throughDoor_63 : decode c_Mo_throughDoor 63 = .ok (.getfield 28, 3) := by decide +kernel
theorem d_Mo_throughDoor_66 : decode c_Mo_throughDoor 66 = .ok (.iload_n 3, 1) := by decide +kernel
theorem d_Mo_throughDoor_67 : decode c_Mo_throughDoor 67 = .ok (.iaload, 1) := by decide +kernel
theorem d_Mo_throughDoor_68 : decode c_Mo_throughDoor 68 = .ok (.goto 9, 3) := by decide +kernel
theorem d_Mo_throughDoor_71 : decode c_Mo_throughDoor 71 = .ok (.aload_n 0, 1) := by decide +kernel
theorem d_Mo_throughDoor_72 : decode c_Mo_throughDoor 72 = .ok (.getfield 25, 3) := by decide +kernel
theorem d_Mo_throughDoor_75 : decode c_Mo_throughDoor 75 = .ok (.iload_n 3, 1) := by decide +kernel
theorem d_Mo_throughDoor_76 : decode c_Mo_throughDoor 76 = .ok (.iaload, 1) := by decide +kernel
theorem d_Mo_throughDoor_77 : decode c_Mo_throughDoor 77 = .ok (.invokevirtual 124, 3) := by decide +kernel
theorem d_Mo_throughDoor_80 : decode c_Mo_throughDoor 80 = .ok (.ifCond .ne 14, 3) := by decide +kernel
theorem d_Mo_throughDoor_83 : decode c_Mo_throughDoor 83 = .ok (.aload_n 0, 1) := by decide +kernel
theorem d_Mo_throughDoor_84 : decode c_Mo_throughDoor 84 = .ok (.getfield 49, 3) := by decide +kernel
theorem d_Mo_throughDoor_87 : decode c_Mo_throughDoor 87 = .ok (.iload_n 1, 1) := by decide +kernel
theorem d_Mo_throughDoor_88 : decode c_Mo_throughDoor 88 = .ok (.dup2, 1) := by decide +kernel
theorem d_Mo_throughDoor_89 : decode c_Mo_throughDoor 89 = .ok (.iaload, 1) := by decide +kernel
theorem d_Mo_throughDoor_90 : decode c_Mo_throughDoor 90 = .ok (.iconst 1, 1) := by decide +kernel
theorem d_Mo_throughDoor_91 : decode c_Mo_throughDoor 91 = .ok (.iadd, 1) := by decide +kernel
theorem d_Mo_throughDoor_92 : decode c_Mo_throughDoor 92 = .ok (.iastore, 1) := by decide +kernel
theorem d_Mo_throughDoor_93 : decode c_Mo_throughDoor 93 = .ok (.return_, 1) := by decide +kernel
theorem d_Mo_throughDoor_94 : decode c_Mo_throughDoor 94 = .ok (.aload_n 0, 1) := by decide +kernel
theorem d_Mo_throughDoor_95 : decode c_Mo_throughDoor 95 = .ok (.getfield 34, 3) := by decide +kernel
theorem d_Mo_throughDoor_98 : decode c_Mo_throughDoor 98 = .ok (.iload_n 3, 1) := by decide +kernel
theorem d_Mo_throughDoor_99 : decode c_Mo_throughDoor 99 = .ok (.dup2, 1) := by decide +kernel
theorem d_Mo_throughDoor_100 : decode c_Mo_throughDoor 100 = .ok (.iaload, 1) := by decide +kernel
theorem d_Mo_throughDoor_101 : decode c_Mo_throughDoor 101 = .ok (.iconst 1, 1) := by decide +kernel
theorem d_Mo_throughDoor_102 : decode c_Mo_throughDoor 102 = .ok (.iadd, 1) := by decide +kernel
theorem d_Mo_throughDoor_103 : decode c_Mo_throughDoor 103 = .ok (.iastore, 1) := by decide +kernel
theorem d_Mo_throughDoor_104 : decode c_Mo_throughDoor 104 = .ok (.aload_n 0, 1) := by decide +kernel
theorem d_Mo_throughDoor_105 : decode c_Mo_throughDoor 105 = .ok (.getfield 37, 3) := by decide +kernel
theorem d_Mo_throughDoor_108 : decode c_Mo_throughDoor 108 = .ok (.iload_n 3, 1) := by decide +kernel
theorem d_Mo_throughDoor_109 : decode c_Mo_throughDoor 109 = .ok (.dup2, 1) := by decide +kernel
theorem d_Mo_throughDoor_110 : decode c_Mo_throughDoor 110 = .ok (.iaload, 1) := by decide +kernel
theorem d_Mo_throughDoor_111 : decode c_Mo_throughDoor 111 = .ok (.iload 4, 2) := by decide +kernel
theorem d_Mo_throughDoor_113 : decode c_Mo_throughDoor 113 = .ok (.ifCond .eq 7, 3) := by decide +kernel
theorem d_Mo_throughDoor_116 : decode c_Mo_throughDoor 116 = .ok (.iconst 1, 1) := by decide +kernel
theorem d_Mo_throughDoor_117 : decode c_Mo_throughDoor 117 = .ok (.goto 4, 3) := by decide +kernel
theorem d_Mo_throughDoor_120 : decode c_Mo_throughDoor 120 = .ok (.iconst 0, 1) := by decide +kernel
theorem d_Mo_throughDoor_121 : decode c_Mo_throughDoor 121 = .ok (.iadd, 1) := by decide +kernel
theorem d_Mo_throughDoor_122 : decode c_Mo_throughDoor 122 = .ok (.iastore, 1) := by decide +kernel
theorem d_Mo_throughDoor_123 : decode c_Mo_throughDoor 123 = .ok (.aload_n 0, 1) := by decide +kernel
theorem d_Mo_throughDoor_124 : decode c_Mo_throughDoor 124 = .ok (.getfield 40, 3) := by decide +kernel
theorem d_Mo_throughDoor_127 : decode c_Mo_throughDoor 127 = .ok (.iload_n 3, 1) := by decide +kernel
theorem d_Mo_throughDoor_128 : decode c_Mo_throughDoor 128 = .ok (.dup2, 1) := by decide +kernel
end
section
theorem d_Mo_throughDoor_129 : decode c_Mo_throughDoor 129 = .ok (.iaload, 1) := by decide +kernel
theorem d_Mo_throughDoor_130 : decode c_Mo_throughDoor 130 = .ok (.iload 4, 2) := by decide +kernel
theorem d_Mo_throughDoor_132 : decode c_Mo_throughDoor 132 = .ok (.ifCond .eq 7, 3) := by decide +kernel
theorem d_Mo_throughDoor_135 : decode c_Mo_throughDoor 135 = .ok (.iconst 0, 1) := by decide +kernel
theorem d_Mo_throughDoor_136 : decode c_Mo_throughDoor 136 = .ok (.goto 4, 3) := by decide +kernel
theorem d_Mo_throughDoor_139 : decode c_Mo_throughDoor 139 = .ok (.iconst 1, 1) := by decide +kernel
theorem d_Mo_throughDoor_140 : decode c_Mo_throughDoor 140 = .ok (.iadd, 1) := by decide +kernel
theorem d_Mo_throughDoor_141 : decode c_Mo_throughDoor 141 = .ok (.iastore, 1) := by decide +kernel
theorem d_Mo_throughDoor_142 : decode c_Mo_throughDoor 142 = .ok (.return_, 1) := by decide +kernel
theorem d_Mo_step_0 : decode c_Mo_step 0 = .ok (.aload_n 0, 1) := by decide +kernel
theorem d_Mo_step_1 : decode c_Mo_step 1 = .ok (.iload_n 1, 1) := by decide +kernel
theorem d_Mo_step_2 : decode c_Mo_step 2 = .ok (.invokevirtual 128, 3) := by decide +kernel
theorem d_Mo_step_5 : decode c_Mo_step 5 = .ok (.istore_n 2, 1) := by decide +kernel
theorem d_Mo_step_6 : decode c_Mo_step 6 = .ok (.iload_n 2, 1) := by decide +kernel
theorem d_Mo_step_7 : decode c_Mo_step 7 = .ok (.aload_n 0, 1) := by decide +kernel
theorem d_Mo_step_8 : decode c_Mo_step 8 = .ok (.getfield 46, 3) := by decide +kernel
theorem d_Mo_step_11 : decode c_Mo_step 11 = .ok (.iload_n 1, 1) := by decide +kernel
theorem d_Mo_step_12 : decode c_Mo_step 12 = .ok (.iaload, 1) := by decide +kernel
theorem d_Mo_step_13 : decode c_Mo_step 13 = .ok (.if_icmp .ne 4, 3) := by decide +kernel
theorem d_Mo_step_16 : decode c_Mo_step 16 = .ok (.return_, 1) := by decide +kernel
theorem d_Mo_step_17 : decode c_Mo_step 17 = .ok (.aload_n 0, 1) := by decide +kernel
theorem d_Mo_step_18 : decode c_Mo_step 18 = .ok (.getfield 46, 3) := by decide +kernel
theorem d_Mo_step_21 : decode c_Mo_step 21 = .ok (.iload_n 1, 1) := by decide +kernel
theorem d_Mo_step_22 : decode c_Mo_step 22 = .ok (.iaload, 1) := by decide +kernel
theorem d_Mo_step_23 : decode c_Mo_step 23 = .ok (.iconst (-1), 1) := by decide +kernel
theorem d_Mo_step_24 : decode c_Mo_step 24 = .ok (.if_icmp .ne 38, 3) := by decide +kernel
theorem d_Mo_step_27 : decode c_Mo_step 27 = .ok (.aload_n 0, 1) := by decide +kernel
theorem d_Mo_step_28 : decode c_Mo_step 28 = .ok (.iload_n 1, 1) := by decide +kernel
theorem d_Mo_step_29 : decode c_Mo_step 29 = .ok (.iconst 0, 1) := by decide +kernel
theorem d_Mo_step_30 : decode c_Mo_step 30 = .ok (.invokevirtual 124, 3) := by decide +kernel
theorem d_Mo_step_33 : decode c_Mo_step 33 = .ok (.ifCond .eq 16, 3) := by decide +kernel
theorem d_Mo_step_36 : decode c_Mo_step 36 = .ok (.aload_n 0, 1) := by decide +kernel
theorem d_Mo_step_37 : decode c_Mo_step 37 = .ok (.dup, 1) := by decide +kernel
theorem d_Mo_step_38 : decode c_Mo_step 38 = .ok (.getfield 132, 3) := by decide +kernel
theorem d_Mo_step_41 : decode c_Mo_step 41 = .ok (.iconst 1, 1) := by decide +kernel
theorem d_Mo_step_42 : decode c_Mo_step 42 = .ok (.iadd, 1) := by decide +kernel
theorem d_Mo_step_43 : decode c_Mo_step 43 = .ok (.putfield 132, 3) := by decide +kernel
theorem d_Mo_step_46 : decode c_Mo_step 46 = .ok (.goto 65, 3) := by decide +kernel
theorem d_Mo_step_49 : decode c_Mo_step 49 = .ok (.aload_n 0, 1) := by decide +kernel
theorem d_Mo_step_50 : decode c_Mo_step 50 = .ok (.getfield 49, 3) := by decide +kernel
theorem d_Mo_step_53 : decode c_Mo_step 53 = .ok (.iload_n 1, 1) := by decide +kernel
theorem d_Mo_step_54 : decode c_Mo_step 54 = .ok (.dup2, 1) := by decide +kernel
theorem d_Mo_step_55 : decode c_Mo_step 55 = .ok (.iaload, 1) := by decide +kernel
theorem d_Mo_step_56 : decode c_Mo_step 56 = .ok (.iconst 1, 1) := by decide +kernel
theorem d_Mo_step_57 : decode c_Mo_step 57 = .ok (.iadd, 1) := by decide +kernel
theorem d_Mo_step_58 : decode c_Mo_step 58 = .ok (.iastore, 1) := by decide +kernel
theorem d_Mo_step_59 : decode c_Mo_step 59 = .ok (.goto 52, 3) := by decide +kernel
theorem d_Mo_step_62 : decode c_Mo_step 62 = .ok (.aload_n 0, 1) := by decide +kernel
theorem d_Mo_step_63 : decode c_Mo_step 63 = .ok (.getfield 46, 3) := by decide +kernel
theorem d_Mo_step_66 : decode c_Mo_step 66 = .ok (.iload_n 1, 1) := by decide +kernel
theorem d_Mo_step_67 : decode c_Mo_step 67 = .ok (.iaload, 1) := by decide +kernel
theorem d_Mo_step_68 : decode c_Mo_step 68 = .ok (.ifCond .ne 28, 3) := by decide +kernel
theorem d_Mo_step_71 : decode c_Mo_step 71 = .ok (.iload_n 2, 1) := by decide +kernel
theorem d_Mo_step_72 : decode c_Mo_step 72 = .ok (.iconst (-1), 1) := by decide +kernel
theorem d_Mo_step_73 : decode c_Mo_step 73 = .ok (.if_icmp .ne 23, 3) := by decide +kernel
theorem d_Mo_step_76 : decode c_Mo_step 76 = .ok (.aload_n 0, 1) := by decide +kernel
theorem d_Mo_step_77 : decode c_Mo_step 77 = .ok (.iload_n 1, 1) := by decide +kernel
theorem d_Mo_step_78 : decode c_Mo_step 78 = .ok (.iconst (-1), 1) := by decide +kernel
theorem d_Mo_step_79 : decode c_Mo_step 79 = .ok (.invokevirtual 124, 3) := by decide +kernel
theorem d_Mo_step_82 : decode c_Mo_step 82 = .ok (.pop, 1) := by decide +kernel
theorem d_Mo_step_83 : decode c_Mo_step 83 = .ok (.aload_n 0, 1) := by decide +kernel
theorem d_Mo_step_84 : decode c_Mo_step 84 = .ok (.dup, 1) := by decide +kernel
theorem d_Mo_step_85 : decode c_Mo_step 85 = .ok (.getfield 135, 3) := by decide +kernel
theorem d_Mo_step_88 : decode c_Mo_step 88 = .ok (.iconst 1, 1) := by decide +kernel
theorem d_Mo_step_89 : decode c_Mo_step 89 = .ok (.iadd, 1) := by decide +kernel
theorem d_Mo_step_90 : decode c_Mo_step 90 = .ok (.putfield 135, 3) := by decide +kernel
theorem d_Mo_step_93 : decode c_Mo_step 93 = .ok (.goto 18, 3) := by decide +kernel
theorem d_Mo_step_96 : decode c_Mo_step 96 = .ok (.aload_n 0, 1) := by decide +kernel
theorem d_Mo_step_97 : decode c_Mo_step 97 = .ok (.iload_n 1, 1) := by decide +kernel
theorem d_Mo_step_98 : decode c_Mo_step 98 = .ok (.iload_n 2, 1) := by decide +kernel
theorem d_Mo_step_99 : decode c_Mo_step 99 = .ok (.iconst (-1), 1) := by decide +kernel
theorem d_Mo_step_100 : decode c_Mo_step 100 = .ok (.if_icmp .ne 7, 3) := by decide +kernel
theorem d_Mo_step_103 : decode c_Mo_step 103 = .ok (.iconst 0, 1) := by decide +kernel
theorem d_Mo_step_104 : decode c_Mo_step 104 = .ok (.goto 4, 3) := by decide +kernel
theorem d_Mo_step_107 : decode c_Mo_step 107 = .ok (.iload_n 2, 1) := by decide +kernel
theorem d_Mo_step_108 : decode c_Mo_step 108 = .ok (.invokevirtual 138, 3) := by decide +kernel
theorem d_Mo_step_111 : decode c_Mo_step 111 = .ok (.return_, 1) := by decide +kernel
theorem d_Mo_oneMinute_0 : decode c_Mo_oneMinute 0 = .ok (.iconst 0, 1) := by decide +kernel
theorem d_Mo_oneMinute_1 : decode c_Mo_oneMinute 1 = .ok (.istore_n 1, 1) := by decide +kernel
theorem d_Mo_oneMinute_2 : decode c_Mo_oneMinute 2 = .ok (.iload_n 1, 1) := by decide +kernel
theorem d_Mo_oneMinute_3 : decode c_Mo_oneMinute 3 = .ok (.aload_n 0, 1) := by decide +kernel
theorem d_Mo_oneMinute_4 : decode c_Mo_oneMinute 4 = .ok (.getfield 90, 3) := by decide +kernel
theorem d_Mo_oneMinute_7 : decode c_Mo_oneMinute 7 = .ok (.if_icmp .ge 16, 3) := by decide +kernel
theorem d_Mo_oneMinute_10 : decode c_Mo_oneMinute 10 = .ok (.aload_n 0, 1) := by decide +kernel
theorem d_Mo_oneMinute_11 : decode c_Mo_oneMinute 11 = .ok (.getfield 34, 3) := by decide +kernel
theorem d_Mo_oneMinute_14 : decode c_Mo_oneMinute 14 = .ok (.iload_n 1, 1) := by decide +kernel
theorem d_Mo_oneMinute_15 : decode c_Mo_oneMinute 15 = .ok (.iconst 0, 1) := by decide +kernel
theorem d_Mo_oneMinute_16 : decode c_Mo_oneMinute 16 = .ok (.iastore, 1) := by decide +kernel
theorem d_Mo_oneMinute_17 : decode c_Mo_oneMinute 17 = .ok (.iinc 1 1, 3) := by decide +kernel
theorem d_Mo_oneMinute_20 : decode c_Mo_oneMinute 20 = .ok (.goto (-18), 3) := by decide +kernel
theorem d_Mo_oneMinute_23 : decode c_Mo_oneMinute 23 = .ok (.iconst 0, 1) := by decide +kernel
theorem d_Mo_oneMinute_24 : decode c_Mo_oneMinute 24 = .ok (.istore_n 1, 1) := by decide +kernel
theorem d_Mo_oneMinute_25 : decode c_Mo_oneMinute 25 = .ok (.iload_n 1, 1) := by decide +kernel
theorem d_Mo_oneMinute_26 : decode c_Mo_oneMinute 26 = .ok (.aload_n 0, 1) := by decide +kernel
theorem d_Mo_oneMinute_27 : decode c_Mo_oneMinute 27 = .ok (.getfield 68, 3) := by decide +kernel
theorem d_Mo_oneMinute_30 : decode c_Mo_oneMinute 30 = .ok (.if_icmp .ge 49, 3) := by decide +kernel
theorem d_Mo_oneMinute_33 : decode c_Mo_oneMinute 33 = .ok (.aload_n 0, 1) := by decide +kernel
theorem d_Mo_oneMinute_34 : decode c_Mo_oneMinute 34 = .ok (.getfield 43, 3) := by decide +kernel
theorem d_Mo_oneMinute_37 : decode c_Mo_oneMinute 37 = .ok (.iload_n 1, 1) := by decide +kernel
theorem d_Mo_oneMinute_38 : decode c_Mo_oneMinute 38 = .ok (.iaload, 1) := by decide +kernel
theorem d_Mo_oneMinute_39 : decode c_Mo_oneMinute 39 = .ok (.aload_n 0, 1) := by decide +kernel
theorem d_Mo_oneMinute_40 : decode c_Mo_oneMinute 40 = .ok (.getfield 77, 3) := by decide +kernel
theorem d_Mo_oneMinute_43 : decode c_Mo_oneMinute 43 = .ok (.if_icmp .gt 8, 3) := by decide +kernel
theorem d_Mo_oneMinute_46 : decode c_Mo_oneMinute 46 = .ok (.aload_n 0, 1) := by decide +kernel
theorem d_Mo_oneMinute_47 : decode c_Mo_oneMinute 47 = .ok (.iload_n 1, 1) := by decide +kernel
theorem d_Mo_oneMinute_48 : decode c_Mo_oneMinute 48 = .ok (.invokevirtual 141, 3) := by decide +kernel
theorem d_Mo_oneMinute_51 : decode c_Mo_oneMinute 51 = .ok (.aload_n 0, 1) := by decide +kernel
theorem d_Mo_oneMinute_52 : decode c_Mo_oneMinute 52 = .ok (.getfield 53, 3) := by decide +kernel
theorem d_Mo_oneMinute_55 : decode c_Mo_oneMinute 55 = .ok (.sipush 2000, 3) := by decide +kernel
theorem d_Mo_oneMinute_58 : decode c_Mo_oneMinute 58 = .ok (.iload_n 1, 1) := by decide +kernel
theorem d_Mo_oneMinute_59 : decode c_Mo_oneMinute 59 = .ok (.imul, 1) := by decide +kernel
theorem d_Mo_oneMinute_60 : decode c_Mo_oneMinute 60 = .ok (.aload_n 0, 1) := by decide +kernel
theorem d_Mo_oneMinute_61 : decode c_Mo_oneMinute 61 = .ok (.getfield 77, 3) := by decide +kernel
theorem d_Mo_oneMinute_64 : decode c_Mo_oneMinute 64 = .ok (.iadd, 1) := by decide +kernel
theorem d_Mo_oneMinute_65 : decode c_Mo_oneMinute 65 = .ok (.aload_n 0, 1) := by decide +kernel
theorem d_Mo_oneMinute_66 : decode c_Mo_oneMinute 66 = .ok (.getfield 46, 3) := by decide +kernel
theorem d_Mo_oneMinute_69 : decode c_Mo_oneMinute 69 = .ok (.iload_n 1, 1) := by decide +kernel
theorem d_Mo_oneMinute_70 : decode c_Mo_oneMinute 70 = .ok (.iaload, 1) := by decide +kernel
theorem d_Mo_oneMinute_71 : decode c_Mo_oneMinute 71 = .ok (.i2b, 1) := by decide +kernel
theorem d_Mo_oneMinute_72 : decode c_Mo_oneMinute 72 = .ok (.bastore, 1) := by decide +kernel
theorem d_Mo_oneMinute_73 : decode c_Mo_oneMinute 73 = .ok (.iinc 1 1, 3) := by decide +kernel
theorem d_Mo_oneMinute_76 : decode c_Mo_oneMinute 76 = .ok (.goto (-51), 3) := by decide +kernel
theorem d_Mo_oneMinute_79 : decode c_Mo_oneMinute 79 = .ok (.iconst 0, 1) := by decide +kernel
theorem d_Mo_oneMinute_80 : decode c_Mo_oneMinute 80 = .ok (.istore_n 1, 1) := by decide +kernel
theorem d_Mo_oneMinute_81 : decode c_Mo_oneMinute 81 = .ok (.iload_n 1, 1) := by decide +kernel
theorem d_Mo_oneMinute_82 : decode c_Mo_oneMinute 82 = .ok (.aload_n 0, 1) := by decide +kernel
theorem d_Mo_oneMinute_83 : decode c_Mo_oneMinute 83 = .ok (.getfield 65, 3) := by decide +kernel
theorem d_Mo_oneMinute_86 : decode c_Mo_oneMinute 86 = .ok (.if_icmp .ge 83, 3) := by decide +kernel
theorem d_Mo_oneMinute_89 : decode c_Mo_oneMinute 89 = .ok (.aload_n 0, 1) := by decide +kernel
theorem d_Mo_oneMinute_90 : decode c_Mo_oneMinute 90 = .ok (.getfield 16, 3) := by decide +kernel
theorem d_Mo_oneMinute_93 : decode c_Mo_oneMinute 93 = .ok (.iload_n 1, 1) := by decide +kernel
theorem d_Mo_oneMinute_94 : decode c_Mo_oneMinute 94 = .ok (.aload_n 0, 1) := by decide +kernel
theorem d_Mo_oneMinute_95 : decode c_Mo_oneMinute 95 = .ok (.getfield 13, 3) := by decide +kernel
theorem d_Mo_oneMinute_98 : decode c_Mo_oneMinute 98 = .ok (.iload_n 1, 1) := by decide +kernel
theorem d_Mo_oneMinute_99 : decode c_Mo_oneMinute 99 = .ok (.iaload, 1) := by decide +kernel
theorem d_Mo_oneMinute_100 : decode c_Mo_oneMinute 100 = .ok (.aload_n 0, 1) := by decide +kernel
theorem d_Mo_oneMinute_101 : decode c_Mo_oneMinute 101 = .ok (.getfield 16, 3) := by decide +kernel
theorem d_Mo_oneMinute_104 : decode c_Mo_oneMinute 104 = .ok (.iload_n 1, 1) := by decide +kernel
theorem d_Mo_oneMinute_105 : decode c_Mo_oneMinute 105 = .ok (.iaload, 1) := by decide +kernel
theorem d_Mo_oneMinute_106 : decode c_Mo_oneMinute 106 = .ok (.if_icmp .le 12, 3) := by decide +kernel
theorem d_Mo_oneMinute_109 : decode c_Mo_oneMinute 109 = .ok (.aload_n 0, 1) := by decide +kernel
theorem d_Mo_oneMinute_110 : decode c_Mo_oneMinute 110 = .ok (.getfield 13, 3) := by decide +kernel
theorem d_Mo_oneMinute_113 : decode c_Mo_oneMinute 113 = .ok (.iload_n 1, 1) := by decide +kernel
theorem d_Mo_oneMinute_114 : decode c_Mo_oneMinute 114 = .ok (.iaload, 1) := by decide +kernel
theorem d_Mo_oneMinute_115 : decode c_Mo_oneMinute 115 = .ok (.goto 9, 3) := by decide +kernel
theorem d_Mo_oneMinute_118 : decode c_Mo_oneMinute 118 = .ok (.aload_n 0, 1) := by decide +kernel
theorem d_Mo_oneMinute_119 : decode c_Mo_oneMinute 119 = .ok (.getfield 16, 3) := by decide +kernel
theorem d_Mo_oneMinute_122 : decode c_Mo_oneMinute 122 = .ok (.iload_n 1, 1) := by decide +kernel
theorem d_Mo_oneMinute_123 : decode c_Mo_oneMinute 123 = .ok (.iaload, 1) := by decide +kernel
theorem d_Mo_oneMinute_124 : decode c_Mo_oneMinute 124 = .ok (.iastore, 1) := by decide +kernel
theorem d_Mo_oneMinute_125 : decode c_Mo_oneMinute 125 = .ok (.aload_n 0, 1) := by decide +kernel
theorem d_Mo_oneMinute_126 : decode c_Mo_oneMinute 126 = .ok (.getfield 19, 3) := by decide +kernel
theorem d_Mo_oneMinute_129 : decode c_Mo_oneMinute 129 = .ok (.iload_n 1, 1) := by decide +kernel
theorem d_Mo_oneMinute_130 : decode c_Mo_oneMinute 130 = .ok (.aload_n 0, 1) := by decide +kernel
theorem d_Mo_oneMinute_131 : decode c_Mo_oneMinute 131 = .ok (.getfield 13, 3) := by decide +kernel
theorem d_Mo_oneMinute_134 : decode c_Mo_oneMinute 134 = .ok (.iload_n 1, 1) := by decide +kernel
theorem d_Mo_oneMinute_135 : decode c_Mo_oneMinute 135 = .ok (.iaload, 1) := by decide +kernel
theorem d_Mo_oneMinute_136 : decode c_Mo_oneMinute 136 = .ok (.aload_n 0, 1) := by decide +kernel
theorem d_Mo_oneMinute_137 : decode c_Mo_oneMinute 137 = .ok (.getfield 7, 3) := by decide +kernel
theorem d_Mo_oneMinute_140 : decode c_Mo_oneMinute 140 = .ok (.iload_n 1, 1) := by decide +kernel
theorem d_Mo_oneMinute_141 : decode c_Mo_oneMinute 141 = .ok (.iaload, 1) := by decide +kernel
theorem d_Mo_oneMinute_142 : decode c_Mo_oneMinute 142 = .ok (.if_icmp .ne 14, 3) := by decide +kernel
theorem d_Mo_oneMinute_145 : decode c_Mo_oneMinute 145 = .ok (.aload_n 0, 1) := by decide +kernel
theorem d_Mo_oneMinute_146 : decode c_Mo_oneMinute 146 = .ok (.getfield 19, 3) := by decide +kernel
theorem d_Mo_oneMinute_149 : decode c_Mo_oneMinute 149 = .ok (.iload_n 1, 1) := by decide +kernel
theorem d_Mo_oneMinute_150 : decode c_Mo_oneMinute 150 = .ok (.iaload, 1) := by decide +kernel
theorem d_Mo_oneMinute_151 : decode c_Mo_oneMinute 151 = .ok (.iconst 1, 1) := by decide +kernel
theorem d_Mo_oneMinute_152 : decode c_Mo_oneMinute 152 = .ok (.iadd, 1) := by decide +kernel
theorem d_Mo_oneMinute_153 : decode c_Mo_oneMinute 153 = .ok (.goto 9, 3) := by decide +kernel
theorem d_Mo_oneMinute_156 : decode c_Mo_oneMinute 156 = .ok (.aload_n 0, 1) := by decide +kernel
theorem d_Mo_oneMinute_157 : decode c_Mo_oneMinute 157 = .ok (.getfield 19, 3) := by decide +kernel
theorem d_Mo_oneMinute_160 : decode c_Mo_oneMinute 160 = .ok (.iload_n 1, 1) := by decide +kernel
theorem d_Mo_oneMinute_161 : decode c_Mo_oneMinute 161 = .ok (.iaload, 1) := by decide +kernel
theorem d_Mo_oneMinute_162 : decode c_Mo_oneMinute 162 = .ok (.iastore, 1) := by decide +kernel
theorem d_Mo_oneMinute_163 : decode c_Mo_oneMinute 163 = .ok (.iinc 1 1, 3) := by decide +kernel
theorem d_Mo_oneMinute_166 : decode c_Mo_oneMinute 166 = .ok (.goto (-85), 3) := by decide +kernel
theorem d_Mo_oneMinute_169 : decode c_Mo_oneMinute 169 = .ok (.aload_n 0, 1) := by decide +kernel
theorem d_Mo_oneMinute_170 : decode c_Mo_oneMinute 170 = .ok (.dup, 1) := by decide +kernel
theorem d_Mo_oneMinute_171 : decode c_Mo_oneMinute 171 = .ok (.getfield 77, 3) := by decide +kernel
theorem d_Mo_oneMinute_174 : decode c_Mo_oneMinute 174 = .ok (.iconst 1, 1) := by decide +kernel
theorem d_Mo_oneMinute_175 : decode c_Mo_oneMinute 175 = .ok (.iadd, 1) := by decide +kernel
theorem d_Mo_oneMinute_176 : decode c_Mo_oneMinute 176 = .ok (.putfield 77, 3) := by decide +kernel
theorem d_Mo_oneMinute_179 : decode c_Mo_oneMinute 179 = .ok (.return_, 1) := by decide +kernel
theorem d_Mo_run_0 : decode c_Mo_run 0 = .ok (.aload_n 0, 1) := by decide +kernel
theorem d_Mo_run_1 : decode c_Mo_run 1 = .ok (.iload_n 1, 1) := by decide +kernel
theorem d_Mo_run_2 : decode c_Mo_run 2 = .ok (.i2l, 1) := by decide +kernel
theorem d_Mo_run_3 : decode c_Mo_run 3 = .ok (.lconst 1, 1) := by decide +kernel
theorem d_Mo_run_4 : decode c_Mo_run 4 = .ok (.ldc2_w 145, 3) := by decide +kernel
theorem d_Mo_run_7 : decode c_Mo_run 7 = .ok (.invokestatic 73, 3) := by decide +kernel
theorem d_Mo_run_10 : decode c_Mo_run 10 = .ok (.aload_n 0, 1) := by decide +kernel
theorem d_Mo_run_11 : decode c_Mo_run 11 = .ok (.getfield 65, 3) := by decide +kernel
theorem d_Mo_run_14 : decode c_Mo_run 14 = .ok (.ifCond .le 19, 3) := by decide +kernel
theorem d_Mo_run_17 : decode c_Mo_run 17 = .ok (.aload_n 0, 1) := by decide +kernel
theorem d_Mo_run_18 : decode c_Mo_run 18 = .ok (.getfield 77, 3) := by decide +kernel
theorem d_Mo_run_21 : decode c_Mo_run 21 = .ok (.iload_n 1, 1) := by decide +kernel
theorem d_Mo_run_22 : decode c_Mo_run 22 = .ok (.iadd, 1) := by decide +kernel
theorem d_Mo_run_23 : decode c_Mo_run 23 = .ok (.sipush 2000, 3) := by decide +kernel
theorem d_Mo_run_26 : decode c_Mo_run 26 = .ok (.if_icmp .gt 7, 3) := by decide +kernel
theorem d_Mo_run_29 : decode c_Mo_run 29 = .ok (.iconst 1, 1) := by decide +kernel
theorem d_Mo_run_30 : decode c_Mo_run 30 = .ok (.goto 4, 3) := by decide +kernel
theorem d_Mo_run_33 : decode c_Mo_run 33 = .ok (.iconst 0, 1) := by decide +kernel
theorem d_Mo_run_34 : decode c_Mo_run 34 = .ok (.invokevirtual 80, 3) := by decide +kernel
theorem d_Mo_run_37 : decode c_Mo_run 37 = .ok (.ifCond .ne 5, 3) := by decide +kernel
theorem d_Mo_run_40 : decode c_Mo_run 40 = .ok (.iconst 0, 1) := by decide +kernel
theorem d_Mo_run_41 : decode c_Mo_run 41 = .ok (.ireturn, 1) := by decide +kernel
theorem d_Mo_run_42 : decode c_Mo_run 42 = .ok (.iconst 0, 1) := by decide +kernel
theorem d_Mo_run_43 : decode c_Mo_run 43 = .ok (.istore_n 2, 1) := by decide +kernel
theorem d_Mo_run_44 : decode c_Mo_run 44 = .ok (.iload_n 2, 1) := by decide +kernel
theorem d_Mo_run_45 : decode c_Mo_run 45 = .ok (.iload_n 1, 1) := by decide +kernel
theorem d_Mo_run_46 : decode c_Mo_run 46 = .ok (.if_icmp .ge 13, 3) := by decide +kernel
theorem d_Mo_run_49 : decode c_Mo_run 49 = .ok (.aload_n 0, 1) := by decide +kernel
theorem d_Mo_run_50 : decode c_Mo_run 50 = .ok (.invokevirtual 147, 3) := by decide +kernel
theorem d_Mo_run_53 : decode c_Mo_run 53 = .ok (.iinc 2 1, 3) := by decide +kernel
theorem d_Mo_run_56 : decode c_Mo_run 56 = .ok (.goto (-12), 3) := by decide +kernel
theorem d_Mo_run_59 : decode c_Mo_run 59 = .ok (.iconst 0, 1) := by decide +kernel
theorem d_Mo_run_60 : decode c_Mo_run 60 = .ok (.istore_n 2, 1) := by decide +kernel
theorem d_Mo_run_61 : decode c_Mo_run 61 = .ok (.iconst 0, 1) := by decide +kernel
theorem d_Mo_run_62 : decode c_Mo_run 62 = .ok (.istore_n 3, 1) := by decide +kernel
theorem d_Mo_run_63 : decode c_Mo_run 63 = .ok (.iload_n 3, 1) := by decide +kernel
theorem d_Mo_run_64 : decode c_Mo_run 64 = .ok (.aload_n 0, 1) := by decide +kernel
theorem d_Mo_run_65 : decode c_Mo_run 65 = .ok (.getfield 65, 3) := by decide +kernel
theorem d_Mo_run_68 : decode c_Mo_run 68 = .ok (.if_icmp .ge 18, 3) := by decide +kernel
theorem d_Mo_run_71 : decode c_Mo_run 71 = .ok (.iload_n 2, 1) := by decide +kernel
theorem d_Mo_run_72 : decode c_Mo_run 72 = .ok (.aload_n 0, 1) := by decide +kernel
theorem d_Mo_run_73 : decode c_Mo_run 73 = .ok (.getfield 13, 3) := by decide +kernel
theorem d_Mo_run_76 : decode c_Mo_run 76 = .ok (.iload_n 3, 1) := by decide +kernel
theorem d_Mo_run_77 : decode c_Mo_run 77 = .ok (.iaload, 1) := by decide +kernel
theorem d_Mo_run_78 : decode c_Mo_run 78 = .ok (.iadd, 1) := by decide +kernel
theorem d_Mo_run_79 : decode c_Mo_run 79 = .ok (.istore_n 2, 1) := by decide +kernel
theorem d_Mo_run_80 : decode c_Mo_run 80 = .ok (.iinc 3 1, 3) := by decide +kernel
theorem d_Mo_run_83 : decode c_Mo_run 83 = .ok (.goto (-20), 3) := by decide +kernel
theorem d_Mo_run_86 : decode c_Mo_run 86 = .ok (.iload_n 2, 1) := by decide +kernel
theorem d_Mo_run_87 : decode c_Mo_run 87 = .ok (.ireturn, 1) := by decide +kernel
theorem d_Mo_person_0 : decode c_Mo_person 0 = .ok (.aload_n 0, 1) := by decide +kernel
theorem d_Mo_person_1 : decode c_Mo_person 1 = .ok (.aload_n 0, 1) := by decide +kernel
theorem d_Mo_person_2 : decode c_Mo_person 2 = .ok (.iload_n 1, 1) := by decide +kernel
theorem d_Mo_person_3 : decode c_Mo_person 3 = .ok (.invokevirtual 150, 3) := by decide +kernel
theorem d_Mo_person_6 : decode c_Mo_person 6 = .ok (.ifCond .eq 19, 3) := by decide +kernel
theorem d_Mo_person_9 : decode c_Mo_person 9 = .ok (.iload_n 2, 1) := by decide +kernel
theorem d_Mo_person_10 : decode c_Mo_person 10 = .ok (.i2l, 1) := by decide +kernel
theorem d_Mo_person_11 : decode c_Mo_person 11 = .ok (.lconst 0, 1) := by decide +kernel
theorem d_Mo_person_12 : decode c_Mo_person 12 = .ok (.ldc2_w 153, 3) := by decide +kernel
theorem d_Mo_person_15 : decode c_Mo_person 15 = .ok (.invokestatic 73, 3) := by decide +kernel
theorem d_Mo_person_18 : decode c_Mo_person 18 = .ok (.ifCond .eq 7, 3) := by decide +kernel
theorem d_Mo_person_21 : decode c_Mo_person 21 = .ok (.iconst 1, 1) := by decide +kernel
theorem d_Mo_person_22 : decode c_Mo_person 22 = .ok (.goto 4, 3) := by decide +kernel
theorem d_Mo_person_25 : decode c_Mo_person 25 = .ok (.iconst 0, 1) := by decide +kernel
theorem d_Mo_person_26 : decode c_Mo_person 26 = .ok (.iconst 1, 1) := by decide +kernel
theorem d_Mo_person_27 : decode c_Mo_person 27 = .ok (.invokevirtual 80, 3) := by decide +kernel
theorem d_Mo_person_30 : decode c_Mo_person 30 = .ok (.ifCond .eq 12, 3) := by decide +kernel
theorem d_Mo_person_33 : decode c_Mo_person 33 = .ok (.aload_n 0, 1) := by decide +kernel
theorem d_Mo_person_34 : decode c_Mo_person 34 = .ok (.iload_n 1, 1) := by decide +kernel
theorem d_Mo_person_35 : decode c_Mo_person 35 = .ok (.iload_n 2, 1) := by decide +kernel
theorem d_Mo_person_36 : decode c_Mo_person 36 = .ok (.invokevirtual 117, 3) := by decide +kernel
theorem d_Mo_person_39 : decode c_Mo_person 39 = .ok (.goto 4, 3) := by decide +kernel
theorem d_Mo_person_42 : decode c_Mo_person 42 = .ok (.iconst 0, 1) := by decide +kernel
theorem d_Mo_person_43 : decode c_Mo_person 43 = .ok (.ireturn, 1) := by decide +kernel
theorem d_Mo_at_0 : decode c_Mo_at 0 = .ok (.aload_n 0, 1) := by decide +kernel
theorem d_Mo_at_1 : decode c_Mo_at 1 = .ok (.aload_n 0, 1) := by decide +kernel
theorem d_Mo_at_2 : decode c_Mo_at 2 = .ok (.iload_n 1, 1) := by decide +kernel
theorem d_Mo_at_3 : decode c_Mo_at 3 = .ok (.invokevirtual 150, 3) := by decide +kernel
theorem d_Mo_at_6 : decode c_Mo_at 6 = .ok (.iconst 1, 1) := by decide +kernel
theorem d_Mo_at_7 : decode c_Mo_at 7 = .ok (.invokevirtual 80, 3) := by decide +kernel
theorem d_Mo_at_10 : decode c_Mo_at 10 = .ok (.ifCond .eq 12, 3) := by decide +kernel
theorem d_Mo_at_13 : decode c_Mo_at 13 = .ok (.aload_n 0, 1) := by decide +kernel
theorem d_Mo_at_14 : decode c_Mo_at 14 = .ok (.getfield 46, 3) := by decide +kernel
theorem d_Mo_at_17 : decode c_Mo_at 17 = .ok (.iload_n 1, 1) := by decide +kernel
theorem d_Mo_at_18 : decode c_Mo_at 18 = .ok (.iaload, 1) := by decide +kernel
theorem d_Mo_at_19 : decode c_Mo_at 19 = .ok (.goto 4, 3) := by decide +kernel
theorem d_Mo_at_22 : decode c_Mo_at 22 = .ok (.iconst 0, 1) := by decide +kernel
theorem d_Mo_at_23 : decode c_Mo_at 23 = .ok (.ireturn, 1) := by decide +kernel
theorem d_Mo_isOver_0 : decode c_Mo_isOver 0 = .ok (.iload_n 1, 1) := by decide +kernel
theorem d_Mo_isOver_1 : decode c_Mo_isOver 1 = .ok (.ifCond .lt 15, 3) := by decide +kernel
theorem d_Mo_isOver_4 : decode c_Mo_isOver 4 = .ok (.iload_n 1, 1) := by decide +kernel
theorem d_Mo_isOver_5 : decode c_Mo_isOver 5 = .ok (.aload_n 0, 1) := by decide +kernel
theorem d_Mo_isOver_6 : decode c_Mo_isOver 6 = .ok (.getfield 77, 3) := by decide +kernel
theorem d_Mo_isOver_9 : decode c_Mo_isOver 9 = .ok (.if_icmp .ge 7, 3) := by decide +kernel
theorem d_Mo_isOver_12 : decode c_Mo_isOver 12 = .ok (.iconst 1, 1) := by decide +kernel
theorem d_Mo_isOver_13 : decode c_Mo_isOver 13 = .ok (.goto 4, 3) := by decide +kernel
theorem d_Mo_isOver_16 : decode c_Mo_isOver 16 = .ok (.iconst 0, 1) := by decide +kernel
theorem d_Mo_isOver_17 : decode c_Mo_isOver 17 = .ok (.ireturn, 1) := by decide +kernel
theorem d_Mo_was_0 : decode c_Mo_was 0 = .ok (.aload_n 0, 1) := by decide +kernel
theorem d_Mo_was_1 : decode c_Mo_was 1 = .ok (.aload_n 0, 1) := by decide +kernel
theorem d_Mo_was_2 : decode c_Mo_was 2 = .ok (.iload_n 1, 1) := by decide +kernel
theorem d_Mo_was_3 : decode c_Mo_was 3 = .ok (.invokevirtual 150, 3) := by decide +kernel
theorem d_Mo_was_6 : decode c_Mo_was 6 = .ok (.ifCond .eq 15, 3) := by decide +kernel
theorem d_Mo_was_9 : decode c_Mo_was 9 = .ok (.aload_n 0, 1) := by decide +kernel
theorem d_Mo_was_10 : decode c_Mo_was 10 = .ok (.iload_n 2, 1) := by decide +kernel
theorem d_Mo_was_11 : decode c_Mo_was 11 = .ok (.invokevirtual 155, 3) := by decide +kernel
theorem d_Mo_was_14 : decode c_Mo_was 14 = .ok (.ifCond .eq 7, 3) := by decide +kernel
theorem d_Mo_was_17 : decode c_Mo_was 17 = .ok (.iconst 1, 1) := by decide +kernel
theorem d_Mo_was_18 : decode c_Mo_was 18 = .ok (.goto 4, 3) := by decide +kernel
theorem d_Mo_was_21 : decode c_Mo_was 21 = .ok (.iconst 0, 1) := by decide +kernel
theorem d_Mo_was_22 : decode c_Mo_was 22 = .ok (.iconst 1, 1) := by decide +kernel
theorem d_Mo_was_23 : decode c_Mo_was 23 = .ok (.invokevirtual 80, 3) := by decide +kernel
theorem d_Mo_was_26 : decode c_Mo_was 26 = .ok (.ifCond .eq 18, 3) := by decide +kernel
theorem d_Mo_was_29 : decode c_Mo_was 29 = .ok (.aload_n 0, 1) := by decide +kernel
theorem d_Mo_was_30 : decode c_Mo_was 30 = .ok (.getfield 53, 3) := by decide +kernel
theorem d_Mo_was_33 : decode c_Mo_was 33 = .ok (.sipush 2000, 3) := by decide +kernel
theorem d_Mo_was_36 : decode c_Mo_was 36 = .ok (.iload_n 1, 1) := by decide +kernel
theorem d_Mo_was_37 : decode c_Mo_was 37 = .ok (.imul, 1) := by decide +kernel
theorem d_Mo_was_38 : decode c_Mo_was 38 = .ok (.iload_n 2, 1) := by decide +kernel
theorem d_Mo_was_39 : decode c_Mo_was 39 = .ok (.iadd, 1) := by decide +kernel
theorem d_Mo_was_40 : decode c_Mo_was 40 = .ok (.baload, 1) := by decide +kernel
theorem d_Mo_was_41 : decode c_Mo_was 41 = .ok (.goto 4, 3) := by decide +kernel
theorem d_Mo_was_44 : decode c_Mo_was 44 = .ok (.iconst 0, 1) := by decide +kernel
theorem d_Mo_was_45 : decode c_Mo_was 45 = .ok (.ireturn, 1) := by decide +kernel
theorem d_Mo_waited_0 : decode c_Mo_waited 0 = .ok (.aload_n 0, 1) := by decide +kernel
theorem d_Mo_waited_1 : decode c_Mo_waited 1 = .ok (.aload_n 0, 1) := by decide +kernel
theorem d_Mo_waited_2 : decode c_Mo_waited 2 = .ok (.iload_n 1, 1) := by decide +kernel
theorem d_Mo_waited_3 : decode c_Mo_waited 3 = .ok (.invokevirtual 150, 3) := by decide +kernel
theorem d_Mo_waited_6 : decode c_Mo_waited 6 = .ok (.iconst 1, 1) := by decide +kernel
theorem d_Mo_waited_7 : decode c_Mo_waited 7 = .ok (.invokevirtual 80, 3) := by decide +kernel
theorem d_Mo_waited_10 : decode c_Mo_waited 10 = .ok (.ifCond .eq 12, 3) := by decide +kernel
theorem d_Mo_waited_13 : decode c_Mo_waited 13 = .ok (.aload_n 0, 1) := by decide +kernel
theorem d_Mo_waited_14 : decode c_Mo_waited 14 = .ok (.getfield 49, 3) := by decide +kernel
theorem d_Mo_waited_17 : decode c_Mo_waited 17 = .ok (.iload_n 1, 1) := by decide +kernel
theorem d_Mo_waited_18 : decode c_Mo_waited 18 = .ok (.iaload, 1) := by decide +kernel
theorem d_Mo_waited_19 : decode c_Mo_waited 19 = .ok (.goto 4, 3) := by decide +kernel
theorem d_Mo_waited_22 : decode c_Mo_waited 22 = .ok (.iconst 0, 1) := by decide +kernel
theorem d_Mo_waited_23 : decode c_Mo_waited 23 = .ok (.ireturn, 1) := by decide +kernel
theorem d_Mo_in_0 : decode c_Mo_in 0 = .ok (.aload_n 0, 1) := by decide +kernel
theorem d_Mo_in_1 : decode c_Mo_in 1 = .ok (.aload_n 0, 1) := by decide +kernel
theorem d_Mo_in_2 : decode c_Mo_in 2 = .ok (.iload_n 1, 1) := by decide +kernel
theorem d_Mo_in_3 : decode c_Mo_in 3 = .ok (.invokevirtual 84, 3) := by decide +kernel
theorem d_Mo_in_6 : decode c_Mo_in 6 = .ok (.ifCond .eq 19, 3) := by decide +kernel
theorem d_Mo_in_9 : decode c_Mo_in 9 = .ok (.iload_n 2, 1) := by decide +kernel
theorem d_Mo_in_10 : decode c_Mo_in 10 = .ok (.i2l, 1) := by decide +kernel
theorem d_Mo_in_11 : decode c_Mo_in 11 = .ok (.lconst 0, 1) := by decide +kernel
theorem d_Mo_in_12 : decode c_Mo_in 12 = .ok (.ldc2_w 158, 3) := by decide +kernel
theorem d_Mo_in_15 : decode c_Mo_in 15 = .ok (.invokestatic 73, 3) := by decide +kernel
theorem d_Mo_in_18 : decode c_Mo_in 18 = .ok (.ifCond .eq 7, 3) := by decide +kernel
theorem d_Mo_in_21 : decode c_Mo_in 21 = .ok (.iconst 1, 1) := by decide +kernel
theorem d_Mo_in_22 : decode c_Mo_in 22 = .ok (.goto 4, 3) := by decide +kernel
theorem d_Mo_in_25 : decode c_Mo_in 25 = .ok (.iconst 0, 1) := by decide +kernel
theorem d_Mo_in_26 : decode c_Mo_in 26 = .ok (.iconst 1, 1) := by decide +kernel
theorem d_Mo_in_27 : decode c_Mo_in 27 = .ok (.invokevirtual 80, 3) := by decide +kernel
theorem d_Mo_in_30 : decode c_Mo_in 30 = .ok (.ifCond .ne 5, 3) := by decide +kernel
theorem d_Mo_in_33 : decode c_Mo_in 33 = .ok (.iconst 0, 1) := by decide +kernel
theorem d_Mo_in_34 : decode c_Mo_in 34 = .ok (.ireturn, 1) := by decide +kernel
theorem d_Mo_in_35 : decode c_Mo_in 35 = .ok (.iload_n 2, 1) := by decide +kernel
theorem d_Mo_in_36 : decode c_Mo_in 36 = .ok (.ifCond .ne 12, 3) := by decide +kernel
theorem d_Mo_in_39 : decode c_Mo_in 39 = .ok (.aload_n 0, 1) := by decide +kernel
theorem d_Mo_in_40 : decode c_Mo_in 40 = .ok (.getfield 13, 3) := by decide +kernel
theorem d_Mo_in_43 : decode c_Mo_in 43 = .ok (.iload_n 1, 1) := by decide +kernel
theorem d_Mo_in_44 : decode c_Mo_in 44 = .ok (.iaload, 1) := by decide +kernel
theorem d_Mo_in_45 : decode c_Mo_in 45 = .ok (.goto 23, 3) := by decide +kernel
theorem d_Mo_in_48 : decode c_Mo_in 48 = .ok (.iload_n 2, 1) := by decide +kernel
theorem d_Mo_in_49 : decode c_Mo_in 49 = .ok (.iconst 1, 1) := by decide +kernel
theorem d_Mo_in_50 : decode c_Mo_in 50 = .ok (.if_icmp .ne 12, 3) := by decide +kernel
theorem d_Mo_in_53 : decode c_Mo_in 53 = .ok (.aload_n 0, 1) := by decide +kernel
theorem d_Mo_in_54 : decode c_Mo_in 54 = .ok (.getfield 16, 3) := by decide +kernel
theorem d_Mo_in_57 : decode c_Mo_in 57 = .ok (.iload_n 1, 1) := by decide +kernel
theorem d_Mo_in_58 : decode c_Mo_in 58 = .ok (.iaload, 1) := by decide +kernel
theorem d_Mo_in_59 : decode c_Mo_in 59 = .ok (.goto 9, 3) := by decide +kernel
theorem d_Mo_in_62 : decode c_Mo_in 62 = .ok (.aload_n 0, 1) := by decide +kernel
theorem d_Mo_in_63 : decode c_Mo_in 63 = .ok (.getfield 19, 3) := by decide +kernel
theorem d_Mo_in_66 : decode c_Mo_in 66 = .ok (.iload_n 1, 1) := by decide +kernel
theorem d_Mo_in_67 : decode c_Mo_in 67 = .ok (.iaload, 1) := by decide +kernel
theorem d_Mo_in_68 : decode c_Mo_in 68 = .ok (.ireturn, 1) := by decide +kernel
theorem d_Mo_inThen_0 : decode c_Mo_inThen 0 = .ok (.aload_n 0, 1) := by decide +kernel
theorem d_Mo_inThen_1 : decode c_Mo_inThen 1 = .ok (.aload_n 0, 1) := by decide +kernel
theorem d_Mo_inThen_2 : decode c_Mo_inThen 2 = .ok (.iload_n 1, 1) := by decide +kernel
theorem d_Mo_inThen_3 : decode c_Mo_inThen 3 = .ok (.invokevirtual 84, 3) := by decide +kernel
theorem d_Mo_inThen_6 : decode c_Mo_inThen 6 = .ok (.ifCond .eq 15, 3) := by decide +kernel
theorem d_Mo_inThen_9 : decode c_Mo_inThen 9 = .ok (.aload_n 0, 1) := by decide +kernel
theorem d_Mo_inThen_10 : decode c_Mo_inThen 10 = .ok (.iload_n 2, 1) := by decide +kernel
theorem d_Mo_inThen_11 : decode c_Mo_inThen 11 = .ok (.invokevirtual 155, 3) := by decide +kernel
theorem d_Mo_inThen_14 : decode c_Mo_inThen 14 = .ok (.ifCond .eq 7, 3) := by decide +kernel
theorem d_Mo_inThen_17 : decode c_Mo_inThen 17 = .ok (.iconst 1, 1) := by decide +kernel
theorem d_Mo_inThen_18 : decode c_Mo_inThen 18 = .ok (.goto 4, 3) := by decide +kernel
theorem d_Mo_inThen_21 : decode c_Mo_inThen 21 = .ok (.iconst 0, 1) := by decide +kernel
theorem d_Mo_inThen_22 : decode c_Mo_inThen 22 = .ok (.iconst 1, 1) := by decide +kernel
theorem d_Mo_inThen_23 : decode c_Mo_inThen 23 = .ok (.invokevirtual 80, 3) := by decide +kernel
theorem d_Mo_inThen_26 : decode c_Mo_inThen 26 = .ok (.ifCond .ne 5, 3) := by decide +kernel
theorem d_Mo_inThen_29 : decode c_Mo_inThen 29 = .ok (.iconst 0, 1) := by decide +kernel
theorem d_Mo_inThen_30 : decode c_Mo_inThen 30 = .ok (.ireturn, 1) := by decide +kernel
theorem d_Mo_inThen_31 : decode c_Mo_inThen 31 = .ok (.iconst 0, 1) := by decide +kernel
theorem d_Mo_inThen_32 : decode c_Mo_inThen 32 = .ok (.istore_n 3, 1) := by decide +kernel
theorem d_Mo_inThen_33 : decode c_Mo_inThen 33 = .ok (.iconst 0, 1) := by decide +kernel
theorem d_Mo_inThen_34 : decode c_Mo_inThen 34 = .ok (.istore 4, 2) := by decide +kernel
theorem d_Mo_inThen_36 : decode c_Mo_inThen 36 = .ok (.iload 4, 2) := by decide +kernel
theorem d_Mo_inThen_38 : decode c_Mo_inThen 38 = .ok (.aload_n 0, 1) := by decide +kernel
theorem d_Mo_inThen_39 : decode c_Mo_inThen 39 = .ok (.getfield 68, 3) := by decide +kernel
theorem d_Mo_inThen_42 : decode c_Mo_inThen 42 = .ok (.if_icmp .ge 34, 3) := by decide +kernel
theorem d_Mo_inThen_45 : decode c_Mo_inThen 45 = .ok (.aload_n 0, 1) := by decide +kernel
theorem d_Mo_inThen_46 : decode c_Mo_inThen 46 = .ok (.getfield 53, 3) := by decide +kernel
theorem d_Mo_inThen_49 : decode c_Mo_inThen 49 = .ok (.sipush 2000, 3) := by decide +kernel
theorem d_Mo_inThen_52 : decode c_Mo_inThen 52 = .ok (.iload 4, 2) := by decide +kernel
theorem d_Mo_inThen_54 : decode c_Mo_inThen 54 = .ok (.imul, 1) := by decide +kernel
theorem d_Mo_inThen_55 : decode c_Mo_inThen 55 = .ok (.iload_n 2, 1) := by decide +kernel
theorem d_Mo_inThen_56 : decode c_Mo_inThen 56 = .ok (.iadd, 1) := by decide +kernel
theorem d_Mo_inThen_57 : decode c_Mo_inThen 57 = .ok (.baload, 1) := by decide +kernel
theorem d_Mo_inThen_58 : decode c_Mo_inThen 58 = .ok (.iload_n 1, 1) := by decide +kernel
theorem d_Mo_inThen_59 : decode c_Mo_inThen 59 = .ok (.if_icmp .ne 9, 3) := by decide +kernel
theorem d_Mo_inThen_62 : decode c_Mo_inThen 62 = .ok (.iload_n 3, 1) := by decide +kernel
theorem d_Mo_inThen_63 : decode c_Mo_inThen 63 = .ok (.iconst 1, 1) := by decide +kernel
theorem d_Mo_inThen_64 : decode c_Mo_inThen 64 = .ok (.iadd, 1) := by decide +kernel
theorem d_Mo_inThen_65 : decode c_Mo_inThen 65 = .ok (.goto 4, 3) := by decide +kernel
theorem d_Mo_inThen_68 : decode c_Mo_inThen 68 = .ok (.iload_n 3, 1) := by decide +kernel
end
section
theorem d_La_cell_0 : decode c_La_cell 0 = .ok (.iload_n 1, 1) := by decide +kernel
theorem d_La_cell_1 : decode c_La_cell 1 = .ok (.aload_n 0, 1) := by decide +kernel
theorem d_La_cell_2 : decode c_La_cell 2 = .ok (.arraylength, 1) := by decide +kernel
theorem d_La_cell_3 : decode c_La_cell 3 = .ok (.if_icmp .ge 9, 3) := by decide +kernel
theorem d_La_cell_6 : decode c_La_cell 6 = .ok (.aload_n 0, 1) := by decide +kernel
theorem d_La_cell_7 : decode c_La_cell 7 = .ok (.iload_n 1, 1) := by decide +kernel
theorem d_La_cell_8 : decode c_La_cell 8 = .ok (.iaload, 1) := by decide +kernel
theorem d_La_cell_9 : decode c_La_cell 9 = .ok (.goto 4, 3) := by decide +kernel
theorem d_La_cell_12 : decode c_La_cell 12 = .ok (.iconst 0, 1) := by decide +kernel
theorem d_La_cell_13 : decode c_La_cell 13 = .ok (.ireturn, 1) := by decide +kernel
theorem d_La_room_0 : decode c_La_room 0 = .ok (.aload_n 2, 1) := by decide +kernel
theorem d_La_room_1 : decode c_La_room 1 = .ok (.iconst 0, 1) := by decide +kernel
theorem d_La_room_2 : decode c_La_room 2 = .ok (.aload_n 0, 1) := by decide +kernel
theorem d_La_room_3 : decode c_La_room 3 = .ok (.iload_n 1, 1) := by decide +kernel
theorem d_La_room_4 : decode c_La_room 4 = .ok (.invokevirtual 7, 3) := by decide +kernel
theorem d_La_room_7 : decode c_La_room 7 = .ok (.i2l, 1) := by decide +kernel
theorem d_La_room_8 : decode c_La_room 8 = .ok (.lastore, 1) := by decide +kernel
theorem d_La_room_9 : decode c_La_room 9 = .ok (.goto 9, 3) := by decide +kernel
theorem d_La_room_12 : decode c_La_room 12 = .ok (.astore_n 3, 1) := by decide +kernel
theorem d_La_room_13 : decode c_La_room 13 = .ok (.iconst 1, 1) := by decide +kernel
theorem d_La_room_14 : decode c_La_room 14 = .ok (.ireturn, 1) := by decide +kernel
theorem d_La_room_15 : decode c_La_room 15 = .ok (.astore_n 3, 1) := by decide +kernel
theorem d_La_room_16 : decode c_La_room 16 = .ok (.iconst 2, 1) := by decide +kernel
theorem d_La_room_17 : decode c_La_room 17 = .ok (.ireturn, 1) := by decide +kernel
theorem d_La_room_18 : decode c_La_room 18 = .ok (.iconst 0, 1) := by decide +kernel
theorem d_La_room_19 : decode c_La_room 19 = .ok (.ireturn, 1) := by decide +kernel
theorem d_La_door_0 : decode c_La_door 0 = .ok (.aload 4, 2) := by decide +kernel
theorem d_La_door_2 : decode c_La_door 2 = .ok (.iconst 0, 1) := by decide +kernel
theorem d_La_door_3 : decode c_La_door 3 = .ok (.aload_n 0, 1) := by decide +kernel
theorem d_La_door_4 : decode c_La_door 4 = .ok (.iload_n 1, 1) := by decide +kernel
theorem d_La_door_5 : decode c_La_door 5 = .ok (.iload_n 2, 1) := by decide +kernel
theorem d_La_door_6 : decode c_La_door 6 = .ok (.iload_n 3, 1) := by decide +kernel
theorem d_La_door_7 : decode c_La_door 7 = .ok (.invokevirtual 17, 3) := by decide +kernel
theorem d_La_door_10 : decode c_La_door 10 = .ok (.i2l, 1) := by decide +kernel
theorem d_La_door_11 : decode c_La_door 11 = .ok (.lastore, 1) := by decide +kernel
theorem d_La_door_12 : decode c_La_door 12 = .ok (.goto 11, 3) := by decide +kernel
theorem d_La_door_15 : decode c_La_door 15 = .ok (.astore 5, 2) := by decide +kernel
theorem d_La_door_17 : decode c_La_door 17 = .ok (.iconst 1, 1) := by decide +kernel
theorem d_La_door_18 : decode c_La_door 18 = .ok (.ireturn, 1) := by decide +kernel
theorem d_La_door_19 : decode c_La_door 19 = .ok (.astore 5, 2) := by decide +kernel
theorem d_La_door_21 : decode c_La_door 21 = .ok (.iconst 2, 1) := by decide +kernel
theorem d_La_door_22 : decode c_La_door 22 = .ok (.ireturn, 1) := by decide +kernel
theorem d_La_door_23 : decode c_La_door 23 = .ok (.iconst 0, 1) := by decide +kernel
theorem d_La_door_24 : decode c_La_door 24 = .ok (.ireturn, 1) := by decide +kernel
theorem d_La_arrives_0 : decode c_La_arrives 0 = .ok (.aload_n 3, 1) := by decide +kernel
theorem d_La_arrives_1 : decode c_La_arrives 1 = .ok (.iconst 0, 1) := by decide +kernel
theorem d_La_arrives_2 : decode c_La_arrives 2 = .ok (.aload_n 0, 1) := by decide +kernel
theorem d_La_arrives_3 : decode c_La_arrives 3 = .ok (.iload_n 1, 1) := by decide +kernel
theorem d_La_arrives_4 : decode c_La_arrives 4 = .ok (.iload_n 2, 1) := by decide +kernel
theorem d_La_arrives_5 : decode c_La_arrives 5 = .ok (.invokevirtual 21, 3) := by decide +kernel
theorem d_La_arrives_8 : decode c_La_arrives 8 = .ok (.i2l, 1) := by decide +kernel
theorem d_La_arrives_9 : decode c_La_arrives 9 = .ok (.lastore, 1) := by decide +kernel
theorem d_La_arrives_10 : decode c_La_arrives 10 = .ok (.goto 11, 3) := by decide +kernel
theorem d_La_arrives_13 : decode c_La_arrives 13 = .ok (.astore 4, 2) := by decide +kernel
theorem d_La_arrives_15 : decode c_La_arrives 15 = .ok (.iconst 1, 1) := by decide +kernel
theorem d_La_arrives_16 : decode c_La_arrives 16 = .ok (.ireturn, 1) := by decide +kernel
theorem d_La_arrives_17 : decode c_La_arrives 17 = .ok (.astore 4, 2) := by decide +kernel
theorem d_La_arrives_19 : decode c_La_arrives 19 = .ok (.iconst 2, 1) := by decide +kernel
theorem d_La_arrives_20 : decode c_La_arrives 20 = .ok (.ireturn, 1) := by decide +kernel
theorem d_La_arrives_21 : decode c_La_arrives 21 = .ok (.iconst 0, 1) := by decide +kernel
theorem d_La_arrives_22 : decode c_La_arrives 22 = .ok (.ireturn, 1) := by decide +kernel
theorem d_La_draw_0 : decode c_La_draw 0 = .ok (.aload 4, 2) := by decide +kernel
theorem d_La_draw_2 : decode c_La_draw 2 = .ok (.iconst 0, 1) := by decide +kernel
theorem d_La_draw_3 : decode c_La_draw 3 = .ok (.aload_n 0, 1) := by decide +kernel
theorem d_La_draw_4 : decode c_La_draw 4 = .ok (.iload_n 1, 1) := by decide +kernel
theorem d_La_draw_5 : decode c_La_draw 5 = .ok (.iload_n 2, 1) := by decide +kernel
theorem d_La_draw_6 : decode c_La_draw 6 = .ok (.iload_n 3, 1) := by decide +kernel
theorem d_La_draw_7 : decode c_La_draw 7 = .ok (.invokevirtual 25, 3) := by decide +kernel
theorem d_La_draw_10 : decode c_La_draw 10 = .ok (.i2l, 1) := by decide +kernel
theorem d_La_draw_11 : decode c_La_draw 11 = .ok (.lastore, 1) := by decide +kernel
theorem d_La_draw_12 : decode c_La_draw 12 = .ok (.goto 7, 3) := by decide +kernel
theorem d_La_draw_15 : decode c_La_draw 15 = .ok (.astore 5, 2) := by decide +kernel
theorem d_La_draw_17 : decode c_La_draw 17 = .ok (.iconst 1, 1) := by decide +kernel
theorem d_La_draw_18 : decode c_La_draw 18 = .ok (.ireturn, 1) := by decide +kernel
theorem d_La_draw_19 : decode c_La_draw 19 = .ok (.iconst 0, 1) := by decide +kernel
theorem d_La_draw_20 : decode c_La_draw 20 = .ok (.ireturn, 1) := by decide +kernel
theorem d_La_run_0 : decode c_La_run 0 = .ok (.aload_n 2, 1) := by decide +kernel
theorem d_La_run_1 : decode c_La_run 1 = .ok (.iconst 0, 1) := by decide +kernel
theorem d_La_run_2 : decode c_La_run 2 = .ok (.aload_n 0, 1) := by decide +kernel
theorem d_La_run_3 : decode c_La_run 3 = .ok (.iload_n 1, 1) := by decide +kernel
theorem d_La_run_4 : decode c_La_run 4 = .ok (.invokevirtual 28, 3) := by decide +kernel
theorem d_La_run_7 : decode c_La_run 7 = .ok (.i2l, 1) := by decide +kernel
theorem d_La_run_8 : decode c_La_run 8 = .ok (.lastore, 1) := by decide +kernel
theorem d_La_run_9 : decode c_La_run 9 = .ok (.goto 9, 3) := by decide +kernel
theorem d_La_run_12 : decode c_La_run 12 = .ok (.astore_n 3, 1) := by decide +kernel
theorem d_La_run_13 : decode c_La_run 13 = .ok (.iconst 1, 1) := by decide +kernel
theorem d_La_run_14 : decode c_La_run 14 = .ok (.ireturn, 1) := by decide +kernel
theorem d_La_run_15 : decode c_La_run 15 = .ok (.astore_n 3, 1) := by decide +kernel
theorem d_La_run_16 : decode c_La_run 16 = .ok (.iconst 2, 1) := by decide +kernel
theorem d_La_run_17 : decode c_La_run 17 = .ok (.ireturn, 1) := by decide +kernel
theorem d_La_run_18 : decode c_La_run 18 = .ok (.iconst 0, 1) := by decide +kernel
theorem d_La_run_19 : decode c_La_run 19 = .ok (.ireturn, 1) := by decide +kernel
theorem d_La_person_0 : decode c_La_person 0 = .ok (.aload_n 3, 1) := by decide +kernel
theorem d_La_person_1 : decode c_La_person 1 = .ok (.iconst 0, 1) := by decide +kernel
theorem d_La_person_2 : decode c_La_person 2 = .ok (.aload_n 0, 1) := by decide +kernel
theorem d_La_person_3 : decode c_La_person 3 = .ok (.iload_n 1, 1) := by decide +kernel
theorem d_La_person_4 : decode c_La_person 4 = .ok (.iload_n 2, 1) := by decide +kernel
theorem d_La_person_5 : decode c_La_person 5 = .ok (.invokevirtual 31, 3) := by decide +kernel
theorem d_La_person_8 : decode c_La_person 8 = .ok (.i2l, 1) := by decide +kernel
theorem d_La_person_9 : decode c_La_person 9 = .ok (.lastore, 1) := by decide +kernel
theorem d_La_person_10 : decode c_La_person 10 = .ok (.goto 7, 3) := by decide +kernel
theorem d_La_person_13 : decode c_La_person 13 = .ok (.astore 4, 2) := by decide +kernel
theorem d_La_person_15 : decode c_La_person 15 = .ok (.iconst 1, 1) := by decide +kernel
theorem d_La_person_16 : decode c_La_person 16 = .ok (.ireturn, 1) := by decide +kernel
theorem d_La_person_17 : decode c_La_person 17 = .ok (.iconst 0, 1) := by decide +kernel
theorem d_La_person_18 : decode c_La_person 18 = .ok (.ireturn, 1) := by decide +kernel
theorem d_La_at_0 : decode c_La_at 0 = .ok (.aload_n 2, 1) := by decide +kernel
theorem d_La_at_1 : decode c_La_at 1 = .ok (.iconst 0, 1) := by decide +kernel
theorem d_La_at_2 : decode c_La_at 2 = .ok (.aload_n 0, 1) := by decide +kernel
theorem d_La_at_3 : decode c_La_at 3 = .ok (.iload_n 1, 1) := by decide +kernel
theorem d_La_at_4 : decode c_La_at 4 = .ok (.invokevirtual 34, 3) := by decide +kernel
theorem d_La_at_7 : decode c_La_at 7 = .ok (.i2l, 1) := by decide +kernel
theorem d_La_at_8 : decode c_La_at 8 = .ok (.lastore, 1) := by decide +kernel
theorem d_La_at_9 : decode c_La_at 9 = .ok (.goto 6, 3) := by decide +kernel
theorem d_La_at_12 : decode c_La_at 12 = .ok (.astore_n 3, 1) := by decide +kernel
theorem d_La_at_13 : decode c_La_at 13 = .ok (.iconst 1, 1) := by decide +kernel
theorem d_La_at_14 : decode c_La_at 14 = .ok (.ireturn, 1) := by decide +kernel
theorem d_La_at_15 : decode c_La_at 15 = .ok (.iconst 0, 1) := by decide +kernel
theorem d_La_at_16 : decode c_La_at 16 = .ok (.ireturn, 1) := by decide +kernel
theorem d_La_was_0 : decode c_La_was 0 = .ok (.aload_n 3, 1) := by decide +kernel
theorem d_La_was_1 : decode c_La_was 1 = .ok (.iconst 0, 1) := by decide +kernel
theorem d_La_was_2 : decode c_La_was 2 = .ok (.aload_n 0, 1) := by decide +kernel
theorem d_La_was_3 : decode c_La_was 3 = .ok (.iload_n 1, 1) := by decide +kernel
theorem d_La_was_4 : decode c_La_was 4 = .ok (.iload_n 2, 1) := by decide +kernel
theorem d_La_was_5 : decode c_La_was 5 = .ok (.invokevirtual 37, 3) := by decide +kernel
theorem d_La_was_8 : decode c_La_was 8 = .ok (.i2l, 1) := by decide +kernel
theorem d_La_was_9 : decode c_La_was 9 = .ok (.lastore, 1) := by decide +kernel
theorem d_La_was_10 : decode c_La_was 10 = .ok (.goto 7, 3) := by decide +kernel
theorem d_La_was_13 : decode c_La_was 13 = .ok (.astore 4, 2) := by decide +kernel
theorem d_La_was_15 : decode c_La_was 15 = .ok (.iconst 1, 1) := by decide +kernel
theorem d_La_was_16 : decode c_La_was 16 = .ok (.ireturn, 1) := by decide +kernel
theorem d_La_was_17 : decode c_La_was 17 = .ok (.iconst 0, 1) := by decide +kernel
theorem d_La_was_18 : decode c_La_was 18 = .ok (.ireturn, 1) := by decide +kernel
theorem d_La_waited_0 : decode c_La_waited 0 = .ok (.aload_n 2, 1) := by decide +kernel
theorem d_La_waited_1 : decode c_La_waited 1 = .ok (.iconst 0, 1) := by decide +kernel
theorem d_La_waited_2 : decode c_La_waited 2 = .ok (.aload_n 0, 1) := by decide +kernel
theorem d_La_waited_3 : decode c_La_waited 3 = .ok (.iload_n 1, 1) := by decide +kernel
theorem d_La_waited_4 : decode c_La_waited 4 = .ok (.invokevirtual 40, 3) := by decide +kernel
theorem d_La_waited_7 : decode c_La_waited 7 = .ok (.i2l, 1) := by decide +kernel
theorem d_La_waited_8 : decode c_La_waited 8 = .ok (.lastore, 1) := by decide +kernel
theorem d_La_waited_9 : decode c_La_waited 9 = .ok (.goto 6, 3) := by decide +kernel
theorem d_La_waited_12 : decode c_La_waited 12 = .ok (.astore_n 3, 1) := by decide +kernel
theorem d_La_waited_13 : decode c_La_waited 13 = .ok (.iconst 1, 1) := by decide +kernel
theorem d_La_waited_14 : decode c_La_waited 14 = .ok (.ireturn, 1) := by decide +kernel
theorem d_La_waited_15 : decode c_La_waited 15 = .ok (.iconst 0, 1) := by decide +kernel
theorem d_La_waited_16 : decode c_La_waited 16 = .ok (.ireturn, 1) := by decide +kernel
theorem d_La_in_0 : decode c_La_in 0 = .ok (.aload_n 3, 1) := by decide +kernel
theorem d_La_in_1 : decode c_La_in 1 = .ok (.iconst 0, 1) := by decide +kernel
theorem d_La_in_2 : decode c_La_in 2 = .ok (.aload_n 0, 1) := by decide +kernel
theorem d_La_in_3 : decode c_La_in 3 = .ok (.iload_n 1, 1) := by decide +kernel
theorem d_La_in_4 : decode c_La_in 4 = .ok (.iload_n 2, 1) := by decide +kernel
theorem d_La_in_5 : decode c_La_in 5 = .ok (.invokevirtual 43, 3) := by decide +kernel
theorem d_La_in_8 : decode c_La_in 8 = .ok (.i2l, 1) := by decide +kernel
theorem d_La_in_9 : decode c_La_in 9 = .ok (.lastore, 1) := by decide +kernel
theorem d_La_in_10 : decode c_La_in 10 = .ok (.goto 7, 3) := by decide +kernel
theorem d_La_in_13 : decode c_La_in 13 = .ok (.astore 4, 2) := by decide +kernel
theorem d_La_in_15 : decode c_La_in 15 = .ok (.iconst 1, 1) := by decide +kernel
theorem d_La_in_16 : decode c_La_in 16 = .ok (.ireturn, 1) := by decide +kernel
theorem d_La_in_17 : decode c_La_in 17 = .ok (.iconst 0, 1) := by decide +kernel
theorem d_La_in_18 : decode c_La_in 18 = .ok (.ireturn, 1) := by decide +kernel
theorem d_La_inThen_0 : decode c_La_inThen 0 = .ok (.aload_n 3, 1) := by decide +kernel
theorem d_La_inThen_1 : decode c_La_inThen 1 = .ok (.iconst 0, 1) := by decide +kernel
theorem d_La_inThen_2 : decode c_La_inThen 2 = .ok (.aload_n 0, 1) := by decide +kernel
theorem d_La_inThen_3 : decode c_La_inThen 3 = .ok (.iload_n 1, 1) := by decide +kernel
theorem d_La_inThen_4 : decode c_La_inThen 4 = .ok (.iload_n 2, 1) := by decide +kernel
theorem d_La_inThen_5 : decode c_La_inThen 5 = .ok (.invokevirtual 46, 3) := by decide +kernel
theorem d_La_inThen_8 : decode c_La_inThen 8 = .ok (.i2l, 1) := by decide +kernel
theorem d_La_inThen_9 : decode c_La_inThen 9 = .ok (.lastore, 1) := by decide +kernel
theorem d_La_inThen_10 : decode c_La_inThen 10 = .ok (.goto 7, 3) := by decide +kernel
theorem d_La_inThen_13 : decode c_La_inThen 13 = .ok (.astore 4, 2) := by decide +kernel
theorem d_La_inThen_15 : decode c_La_inThen 15 = .ok (.iconst 1, 1) := by decide +kernel
theorem d_La_inThen_16 : decode c_La_inThen 16 = .ok (.ireturn, 1) := by decide +kernel
theorem d_La_inThen_17 : decode c_La_inThen 17 = .ok (.iconst 0, 1) := by decide +kernel
theorem d_La_inThen_18 : decode c_La_inThen 18 = .ok (.ireturn, 1) := by decide +kernel
theorem d_La_through_0 : decode c_La_through 0 = .ok (.aload_n 3, 1) := by decide +kernel
theorem d_La_through_1 : decode c_La_through 1 = .ok (.iconst 0, 1) := by decide +kernel
theorem d_La_through_2 : decode c_La_through 2 = .ok (.aload_n 0, 1) := by decide +kernel
theorem d_La_through_3 : decode c_La_through 3 = .ok (.iload_n 1, 1) := by decide +kernel
theorem d_La_through_4 : decode c_La_through 4 = .ok (.iload_n 2, 1) := by decide +kernel
theorem d_La_through_5 : decode c_La_through 5 = .ok (.invokevirtual 49, 3) := by decide +kernel
theorem d_La_through_8 : decode c_La_through 8 = .ok (.i2l, 1) := by decide +kernel
theorem d_La_through_9 : decode c_La_through 9 = .ok (.lastore, 1) := by decide +kernel
theorem d_La_through_10 : decode c_La_through 10 = .ok (.goto 7, 3) := by decide +kernel
theorem d_La_through_13 : decode c_La_through 13 = .ok (.astore 4, 2) := by decide +kernel
theorem d_La_through_15 : decode c_La_through 15 = .ok (.iconst 1, 1) := by decide +kernel
theorem d_La_through_16 : decode c_La_through 16 = .ok (.ireturn, 1) := by decide +kernel
theorem d_La_through_17 : decode c_La_through 17 = .ok (.iconst 0, 1) := by decide +kernel
theorem d_La_through_18 : decode c_La_through 18 = .ok (.ireturn, 1) := by decide +kernel
theorem d_La_distance_0 : decode c_La_distance 0 = .ok (.aload_n 3, 1) := by decide +kernel
theorem d_La_distance_1 : decode c_La_distance 1 = .ok (.iconst 0, 1) := by decide +kernel
theorem d_La_distance_2 : decode c_La_distance 2 = .ok (.aload_n 0, 1) := by decide +kernel
theorem d_La_distance_3 : decode c_La_distance 3 = .ok (.iload_n 1, 1) := by decide +kernel
theorem d_La_distance_4 : decode c_La_distance 4 = .ok (.iload_n 2, 1) := by decide +kernel
theorem d_La_distance_5 : decode c_La_distance 5 = .ok (.invokevirtual 53, 3) := by decide +kernel
theorem d_La_distance_8 : decode c_La_distance 8 = .ok (.i2l, 1) := by decide +kernel
theorem d_La_distance_9 : decode c_La_distance 9 = .ok (.lastore, 1) := by decide +kernel
theorem d_La_distance_10 : decode c_La_distance 10 = .ok (.goto 7, 3) := by decide +kernel
theorem d_La_distance_13 : decode c_La_distance 13 = .ok (.astore 4, 2) := by decide +kernel
theorem d_La_distance_15 : decode c_La_distance 15 = .ok (.iconst 1, 1) := by decide +kernel
theorem d_La_distance_16 : decode c_La_distance 16 = .ok (.ireturn, 1) := by decide +kernel
end
section
theorem d_La_distance_17 : decode c_La_distance 17 = .ok (.iconst 0, 1) := by decide +kernel
theorem d_La_distance_18 : decode c_La_distance 18 = .ok (.ireturn, 1) := by decide +kernel
theorem d_La_met_0 : decode c_La_met 0 = .ok (.aload_n 3, 1) := by decide +kernel
theorem d_La_met_1 : decode c_La_met 1 = .ok (.iconst 0, 1) := by decide +kernel
theorem d_La_met_2 : decode c_La_met 2 = .ok (.aload_n 0, 1) := by decide +kernel
theorem d_La_met_3 : decode c_La_met 3 = .ok (.iload_n 1, 1) := by decide +kernel
theorem d_La_met_4 : decode c_La_met 4 = .ok (.iload_n 2, 1) := by decide +kernel
theorem d_La_met_5 : decode c_La_met 5 = .ok (.invokevirtual 56, 3) := by decide +kernel
theorem d_La_met_8 : decode c_La_met 8 = .ok (.i2l, 1) := by decide +kernel
theorem d_La_met_9 : decode c_La_met 9 = .ok (.lastore, 1) := by decide +kernel
theorem d_La_met_10 : decode c_La_met 10 = .ok (.goto 7, 3) := by decide +kernel
theorem d_La_met_13 : decode c_La_met 13 = .ok (.astore 4, 2) := by decide +kernel
theorem d_La_met_15 : decode c_La_met 15 = .ok (.iconst 1, 1) := by decide +kernel
theorem d_La_met_16 : decode c_La_met 16 = .ok (.ireturn, 1) := by decide +kernel
theorem d_La_met_17 : decode c_La_met 17 = .ok (.iconst 0, 1) := by decide +kernel
theorem d_La_met_18 : decode c_La_met 18 = .ok (.ireturn, 1) := by decide +kernel
theorem d_La_law_0 : decode code 0 = .ok (.new 8, 3) := by decide +kernel
theorem d_La_law_3 : decode code 3 = .ok (.dup, 1) := by decide +kernel
theorem d_La_law_4 : decode code 4 = .ok (.aload_n 0, 1) := by decide +kernel
theorem d_La_law_5 : decode code 5 = .ok (.iconst 0, 1) := by decide +kernel
theorem d_La_law_6 : decode code 6 = .ok (.invokestatic 59, 3) := by decide +kernel
theorem d_La_law_9 : decode code 9 = .ok (.i2l, 1) := by decide +kernel
theorem d_La_law_10 : decode code 10 = .ok (.invokespecial 65, 3) := by decide +kernel
theorem d_La_law_13 : decode code 13 = .ok (.astore_n 1, 1) := by decide +kernel
theorem d_La_law_14 : decode code 14 = .ok (.new 68, 3) := by decide +kernel
theorem d_La_law_17 : decode code 17 = .ok (.dup, 1) := by decide +kernel
theorem d_La_law_18 : decode code 18 = .ok (.aload_n 0, 1) := by decide +kernel
theorem d_La_law_19 : decode code 19 = .ok (.iconst 0, 1) := by decide +kernel
theorem d_La_law_20 : decode code 20 = .ok (.invokestatic 59, 3) := by decide +kernel
theorem d_La_law_23 : decode code 23 = .ok (.i2l, 1) := by decide +kernel
theorem d_La_law_24 : decode code 24 = .ok (.invokespecial 70, 3) := by decide +kernel
theorem d_La_law_27 : decode code 27 = .ok (.astore_n 2, 1) := by decide +kernel
theorem d_La_law_28 : decode code 28 = .ok (.iconst 1, 1) := by decide +kernel
theorem d_La_law_29 : decode code 29 = .ok (.newarray .long, 2) := by decide +kernel
theorem d_La_law_31 : decode code 31 = .ok (.astore_n 3, 1) := by decide +kernel
theorem d_La_law_32 : decode code 32 = .ok (.iconst 1, 1) := by decide +kernel
theorem d_La_law_33 : decode code 33 = .ok (.istore 4, 2) := by decide +kernel
theorem d_La_law_35 : decode code 35 = .ok (.iload 4, 2) := by decide +kernel
theorem d_La_law_37 : decode code 37 = .ok (.aload_n 0, 1) := by decide +kernel
theorem d_La_law_38 : decode code 38 = .ok (.arraylength, 1) := by decide +kernel
theorem d_La_law_39 : decode code 39 = .ok (.iconst 4, 1) := by decide +kernel
theorem d_La_law_40 : decode code 40 = .ok (.isub, 1) := by decide +kernel
theorem d_La_law_41 : decode code 41 = .ok (.if_icmp .gt 1074, 3) := by decide +kernel
theorem d_La_law_44 : decode code 44 = .ok (.aload_n 0, 1) := by decide +kernel
theorem d_La_law_45 : decode code 45 = .ok (.iload 4, 2) := by decide +kernel
theorem d_La_law_47 : decode code 47 = .ok (.iaload, 1) := by decide +kernel
theorem d_La_law_48 : decode code 48 = .ok (.bipush 15, 2) := by decide +kernel
theorem d_La_law_50 : decode code 50 = .ok (.iand, 1) := by decide +kernel
theorem d_La_law_51 : decode code 51 = .ok (.tableswitch 1058 0 14 #[73, 129, 209, 277, 357, 413, 481, 537, 605, 661, 729, 797, 881, 949, 1017], 73) := by decide +kernel
theorem d_La_law_124 : decode code 124 = .ok (.aload_n 1, 1) := by decide +kernel
theorem d_La_law_125 : decode code 125 = .ok (.aload_n 0, 1) := by decide +kernel
theorem d_La_law_126 : decode code 126 = .ok (.iload 4, 2) := by decide +kernel
theorem d_La_law_128 : decode code 128 = .ok (.iconst 1, 1) := by decide +kernel
theorem d_La_law_129 : decode code 129 = .ok (.iadd, 1) := by decide +kernel
theorem d_La_law_130 : decode code 130 = .ok (.iaload, 1) := by decide +kernel
theorem d_La_law_131 : decode code 131 = .ok (.aload_n 3, 1) := by decide +kernel
theorem d_La_law_132 : decode code 132 = .ok (.invokestatic 71, 3) := by decide +kernel
theorem d_La_law_135 : decode code 135 = .ok (.istore 5, 2) := by decide +kernel
theorem d_La_law_137 : decode code 137 = .ok (.aload_n 2, 1) := by decide +kernel
theorem d_La_law_138 : decode code 138 = .ok (.aload_n 0, 1) := by decide +kernel
theorem d_La_law_139 : decode code 139 = .ok (.iload 4, 2) := by decide +kernel
theorem d_La_law_141 : decode code 141 = .ok (.iconst 1, 1) := by decide +kernel
theorem d_La_law_142 : decode code 142 = .ok (.iadd, 1) := by decide +kernel
theorem d_La_law_143 : decode code 143 = .ok (.iaload, 1) := by decide +kernel
theorem d_La_law_144 : decode code 144 = .ok (.invokevirtual 74, 3) := by decide +kernel
theorem d_La_law_147 : decode code 147 = .ok (.istore 6, 2) := by decide +kernel
theorem d_La_law_149 : decode code 149 = .ok (.aload_n 2, 1) := by decide +kernel
theorem d_La_law_150 : decode code 150 = .ok (.invokevirtual 75, 3) := by decide +kernel
theorem d_La_law_153 : decode code 153 = .ok (.iload 5, 2) := by decide +kernel
theorem d_La_law_155 : decode code 155 = .ok (.if_icmp .eq 5, 3) := by decide +kernel
theorem d_La_law_158 : decode code 158 = .ok (.iconst 0, 1) := by decide +kernel
theorem d_La_law_159 : decode code 159 = .ok (.ireturn, 1) := by decide +kernel
theorem d_La_law_160 : decode code 160 = .ok (.iload 5, 2) := by decide +kernel
theorem d_La_law_162 : decode code 162 = .ok (.ifCond .ne 15, 3) := by decide +kernel
theorem d_La_law_165 : decode code 165 = .ok (.aload_n 3, 1) := by decide +kernel
theorem d_La_law_166 : decode code 166 = .ok (.iconst 0, 1) := by decide +kernel
theorem d_La_law_167 : decode code 167 = .ok (.laload, 1) := by decide +kernel
theorem d_La_law_168 : decode code 168 = .ok (.iload 6, 2) := by decide +kernel
theorem d_La_law_170 : decode code 170 = .ok (.i2l, 1) := by decide +kernel
theorem d_La_law_171 : decode code 171 = .ok (.lcmp, 1) := by decide +kernel
theorem d_La_law_172 : decode code 172 = .ok (.ifCond .eq 5, 3) := by decide +kernel
theorem d_La_law_175 : decode code 175 = .ok (.iconst 0, 1) := by decide +kernel
theorem d_La_law_176 : decode code 176 = .ok (.ireturn, 1) := by decide +kernel
theorem d_La_law_177 : decode code 177 = .ok (.goto 932, 3) := by decide +kernel
theorem d_La_law_180 : decode code 180 = .ok (.aload_n 1, 1) := by decide +kernel
theorem d_La_law_181 : decode code 181 = .ok (.aload_n 0, 1) := by decide +kernel
theorem d_La_law_182 : decode code 182 = .ok (.iload 4, 2) := by decide +kernel
theorem d_La_law_184 : decode code 184 = .ok (.iconst 1, 1) := by decide +kernel
theorem d_La_law_185 : decode code 185 = .ok (.iadd, 1) := by decide +kernel
theorem d_La_law_186 : decode code 186 = .ok (.iaload, 1) := by decide +kernel
theorem d_La_law_187 : decode code 187 = .ok (.aload_n 0, 1) := by decide +kernel
theorem d_La_law_188 : decode code 188 = .ok (.iload 4, 2) := by decide +kernel
theorem d_La_law_190 : decode code 190 = .ok (.iconst 2, 1) := by decide +kernel
theorem d_La_law_191 : decode code 191 = .ok (.iadd, 1) := by decide +kernel
theorem d_La_law_192 : decode code 192 = .ok (.iaload, 1) := by decide +kernel
theorem d_La_law_193 : decode code 193 = .ok (.aload_n 0, 1) := by decide +kernel
theorem d_La_law_194 : decode code 194 = .ok (.iload 4, 2) := by decide +kernel
theorem d_La_law_196 : decode code 196 = .ok (.iconst 3, 1) := by decide +kernel
theorem d_La_law_197 : decode code 197 = .ok (.iadd, 1) := by decide +kernel
theorem d_La_law_198 : decode code 198 = .ok (.iaload, 1) := by decide +kernel
theorem d_La_law_199 : decode code 199 = .ok (.aload_n 3, 1) := by decide +kernel
theorem d_La_law_200 : decode code 200 = .ok (.invokestatic 79, 3) := by decide +kernel
theorem d_La_law_203 : decode code 203 = .ok (.istore 5, 2) := by decide +kernel
theorem d_La_law_205 : decode code 205 = .ok (.aload_n 2, 1) := by decide +kernel
theorem d_La_law_206 : decode code 206 = .ok (.aload_n 0, 1) := by decide +kernel
theorem d_La_law_207 : decode code 207 = .ok (.iload 4, 2) := by decide +kernel
theorem d_La_law_209 : decode code 209 = .ok (.iconst 1, 1) := by decide +kernel
theorem d_La_law_210 : decode code 210 = .ok (.iadd, 1) := by decide +kernel
theorem d_La_law_211 : decode code 211 = .ok (.iaload, 1) := by decide +kernel
theorem d_La_law_212 : decode code 212 = .ok (.aload_n 0, 1) := by decide +kernel
theorem d_La_law_213 : decode code 213 = .ok (.iload 4, 2) := by decide +kernel
theorem d_La_law_215 : decode code 215 = .ok (.iconst 2, 1) := by decide +kernel
theorem d_La_law_216 : decode code 216 = .ok (.iadd, 1) := by decide +kernel
theorem d_La_law_217 : decode code 217 = .ok (.iaload, 1) := by decide +kernel
theorem d_La_law_218 : decode code 218 = .ok (.aload_n 0, 1) := by decide +kernel
theorem d_La_law_219 : decode code 219 = .ok (.iload 4, 2) := by decide +kernel
theorem d_La_law_221 : decode code 221 = .ok (.iconst 3, 1) := by decide +kernel
theorem d_La_law_222 : decode code 222 = .ok (.iadd, 1) := by decide +kernel
theorem d_La_law_223 : decode code 223 = .ok (.iaload, 1) := by decide +kernel
theorem d_La_law_224 : decode code 224 = .ok (.invokevirtual 82, 3) := by decide +kernel
theorem d_La_law_227 : decode code 227 = .ok (.istore 6, 2) := by decide +kernel
theorem d_La_law_229 : decode code 229 = .ok (.aload_n 2, 1) := by decide +kernel
theorem d_La_law_230 : decode code 230 = .ok (.invokevirtual 75, 3) := by decide +kernel
theorem d_La_law_233 : decode code 233 = .ok (.iload 5, 2) := by decide +kernel
theorem d_La_law_235 : decode code 235 = .ok (.if_icmp .eq 5, 3) := by decide +kernel
theorem d_La_law_238 : decode code 238 = .ok (.iconst 0, 1) := by decide +kernel
theorem d_La_law_239 : decode code 239 = .ok (.ireturn, 1) := by decide +kernel
theorem d_La_law_240 : decode code 240 = .ok (.iload 5, 2) := by decide +kernel
theorem d_La_law_242 : decode code 242 = .ok (.ifCond .ne 15, 3) := by decide +kernel
theorem d_La_law_245 : decode code 245 = .ok (.aload_n 3, 1) := by decide +kernel
theorem d_La_law_246 : decode code 246 = .ok (.iconst 0, 1) := by decide +kernel
theorem d_La_law_247 : decode code 247 = .ok (.laload, 1) := by decide +kernel
theorem d_La_law_248 : decode code 248 = .ok (.iload 6, 2) := by decide +kernel
theorem d_La_law_250 : decode code 250 = .ok (.i2l, 1) := by decide +kernel
theorem d_La_law_251 : decode code 251 = .ok (.lcmp, 1) := by decide +kernel
theorem d_La_law_252 : decode code 252 = .ok (.ifCond .eq 5, 3) := by decide +kernel
theorem d_La_law_255 : decode code 255 = .ok (.iconst 0, 1) := by decide +kernel
theorem d_La_law_256 : decode code 256 = .ok (.ireturn, 1) := by decide +kernel
theorem d_La_law_257 : decode code 257 = .ok (.goto 852, 3) := by decide +kernel
theorem d_La_law_260 : decode code 260 = .ok (.aload_n 1, 1) := by decide +kernel
theorem d_La_law_261 : decode code 261 = .ok (.aload_n 0, 1) := by decide +kernel
theorem d_La_law_262 : decode code 262 = .ok (.iload 4, 2) := by decide +kernel
theorem d_La_law_264 : decode code 264 = .ok (.iconst 1, 1) := by decide +kernel
theorem d_La_law_265 : decode code 265 = .ok (.iadd, 1) := by decide +kernel
theorem d_La_law_266 : decode code 266 = .ok (.iaload, 1) := by decide +kernel
theorem d_La_law_267 : decode code 267 = .ok (.aload_n 0, 1) := by decide +kernel
theorem d_La_law_268 : decode code 268 = .ok (.iload 4, 2) := by decide +kernel
theorem d_La_law_270 : decode code 270 = .ok (.iconst 2, 1) := by decide +kernel
theorem d_La_law_271 : decode code 271 = .ok (.iadd, 1) := by decide +kernel
theorem d_La_law_272 : decode code 272 = .ok (.iaload, 1) := by decide +kernel
theorem d_La_law_273 : decode code 273 = .ok (.aload_n 3, 1) := by decide +kernel
theorem d_La_law_274 : decode code 274 = .ok (.invokestatic 83, 3) := by decide +kernel
theorem d_La_law_277 : decode code 277 = .ok (.istore 5, 2) := by decide +kernel
theorem d_La_law_279 : decode code 279 = .ok (.aload_n 2, 1) := by decide +kernel
theorem d_La_law_280 : decode code 280 = .ok (.aload_n 0, 1) := by decide +kernel
theorem d_La_law_281 : decode code 281 = .ok (.iload 4, 2) := by decide +kernel
theorem d_La_law_283 : decode code 283 = .ok (.iconst 1, 1) := by decide +kernel
theorem d_La_law_284 : decode code 284 = .ok (.iadd, 1) := by decide +kernel
theorem d_La_law_285 : decode code 285 = .ok (.iaload, 1) := by decide +kernel
theorem d_La_law_286 : decode code 286 = .ok (.aload_n 0, 1) := by decide +kernel
theorem d_La_law_287 : decode code 287 = .ok (.iload 4, 2) := by decide +kernel
theorem d_La_law_289 : decode code 289 = .ok (.iconst 2, 1) := by decide +kernel
theorem d_La_law_290 : decode code 290 = .ok (.iadd, 1) := by decide +kernel
theorem d_La_law_291 : decode code 291 = .ok (.iaload, 1) := by decide +kernel
theorem d_La_law_292 : decode code 292 = .ok (.invokevirtual 86, 3) := by decide +kernel
theorem d_La_law_295 : decode code 295 = .ok (.istore 6, 2) := by decide +kernel
theorem d_La_law_297 : decode code 297 = .ok (.aload_n 2, 1) := by decide +kernel
theorem d_La_law_298 : decode code 298 = .ok (.invokevirtual 75, 3) := by decide +kernel
theorem d_La_law_301 : decode code 301 = .ok (.iload 5, 2) := by decide +kernel
theorem d_La_law_303 : decode code 303 = .ok (.if_icmp .eq 5, 3) := by decide +kernel
theorem d_La_law_306 : decode code 306 = .ok (.iconst 0, 1) := by decide +kernel
theorem d_La_law_307 : decode code 307 = .ok (.ireturn, 1) := by decide +kernel
theorem d_La_law_308 : decode code 308 = .ok (.iload 5, 2) := by decide +kernel
theorem d_La_law_310 : decode code 310 = .ok (.ifCond .ne 15, 3) := by decide +kernel
theorem d_La_law_313 : decode code 313 = .ok (.aload_n 3, 1) := by decide +kernel
theorem d_La_law_314 : decode code 314 = .ok (.iconst 0, 1) := by decide +kernel
theorem d_La_law_315 : decode code 315 = .ok (.laload, 1) := by decide +kernel
theorem d_La_law_316 : decode code 316 = .ok (.iload 6, 2) := by decide +kernel
theorem d_La_law_318 : decode code 318 = .ok (.i2l, 1) := by decide +kernel
theorem d_La_law_319 : decode code 319 = .ok (.lcmp, 1) := by decide +kernel
theorem d_La_law_320 : decode code 320 = .ok (.ifCond .eq 5, 3) := by decide +kernel
theorem d_La_law_323 : decode code 323 = .ok (.iconst 0, 1) := by decide +kernel
theorem d_La_law_324 : decode code 324 = .ok (.ireturn, 1) := by decide +kernel
theorem d_La_law_325 : decode code 325 = .ok (.goto 784, 3) := by decide +kernel
theorem d_La_law_328 : decode code 328 = .ok (.aload_n 1, 1) := by decide +kernel
theorem d_La_law_329 : decode code 329 = .ok (.aload_n 0, 1) := by decide +kernel
theorem d_La_law_330 : decode code 330 = .ok (.iload 4, 2) := by decide +kernel
theorem d_La_law_332 : decode code 332 = .ok (.iconst 1, 1) := by decide +kernel
theorem d_La_law_333 : decode code 333 = .ok (.iadd, 1) := by decide +kernel
theorem d_La_law_334 : decode code 334 = .ok (.iaload, 1) := by decide +kernel
theorem d_La_law_335 : decode code 335 = .ok (.aload_n 0, 1) := by decide +kernel
theorem d_La_law_336 : decode code 336 = .ok (.iload 4, 2) := by decide +kernel
theorem d_La_law_338 : decode code 338 = .ok (.iconst 2, 1) := by decide +kernel
theorem d_La_law_339 : decode code 339 = .ok (.iadd, 1) := by decide +kernel
theorem d_La_law_340 : decode code 340 = .ok (.iaload, 1) := by decide +kernel
theorem d_La_law_341 : decode code 341 = .ok (.aload_n 0, 1) := by decide +kernel
theorem d_La_law_342 : decode code 342 = .ok (.iload 4, 2) := by decide +kernel
theorem d_La_law_344 : decode code 344 = .ok (.iconst 3, 1) := by decide +kernel
theorem d_La_law_345 : decode code 345 = .ok (.iadd, 1) := by decide +kernel
theorem d_La_law_346 : decode code 346 = .ok (.iaload, 1) := by decide +kernel
end
section
theorem d_La_law_347 : decode code 347 = .ok (.aload_n 3, 1) := by decide +kernel
theorem d_La_law_348 : decode code 348 = .ok (.invokestatic 87, 3) := by decide +kernel
theorem d_La_law_351 : decode code 351 = .ok (.istore 5, 2) := by decide +kernel
theorem d_La_law_353 : decode code 353 = .ok (.aload_n 2, 1) := by decide +kernel
theorem d_La_law_354 : decode code 354 = .ok (.aload_n 0, 1) := by decide +kernel
theorem d_La_law_355 : decode code 355 = .ok (.iload 4, 2) := by decide +kernel
theorem d_La_law_357 : decode code 357 = .ok (.iconst 1, 1) := by decide +kernel
theorem d_La_law_358 : decode code 358 = .ok (.iadd, 1) := by decide +kernel
theorem d_La_law_359 : decode code 359 = .ok (.iaload, 1) := by decide +kernel
theorem d_La_law_360 : decode code 360 = .ok (.aload_n 0, 1) := by decide +kernel
theorem d_La_law_361 : decode code 361 = .ok (.iload 4, 2) := by decide +kernel
theorem d_La_law_363 : decode code 363 = .ok (.iconst 2, 1) := by decide +kernel
theorem d_La_law_364 : decode code 364 = .ok (.iadd, 1) := by decide +kernel
theorem d_La_law_365 : decode code 365 = .ok (.iaload, 1) := by decide +kernel
theorem d_La_law_366 : decode code 366 = .ok (.aload_n 0, 1) := by decide +kernel
theorem d_La_law_367 : decode code 367 = .ok (.iload 4, 2) := by decide +kernel
theorem d_La_law_369 : decode code 369 = .ok (.iconst 3, 1) := by decide +kernel
theorem d_La_law_370 : decode code 370 = .ok (.iadd, 1) := by decide +kernel
theorem d_La_law_371 : decode code 371 = .ok (.iaload, 1) := by decide +kernel
theorem d_La_law_372 : decode code 372 = .ok (.invokevirtual 89, 3) := by decide +kernel
theorem d_La_law_375 : decode code 375 = .ok (.istore 6, 2) := by decide +kernel
theorem d_La_law_377 : decode code 377 = .ok (.aload_n 2, 1) := by decide +kernel
theorem d_La_law_378 : decode code 378 = .ok (.invokevirtual 75, 3) := by decide +kernel
theorem d_La_law_381 : decode code 381 = .ok (.iload 5, 2) := by decide +kernel
theorem d_La_law_383 : decode code 383 = .ok (.if_icmp .eq 5, 3) := by decide +kernel
theorem d_La_law_386 : decode code 386 = .ok (.iconst 0, 1) := by decide +kernel
theorem d_La_law_387 : decode code 387 = .ok (.ireturn, 1) := by decide +kernel
theorem d_La_law_388 : decode code 388 = .ok (.iload 5, 2) := by decide +kernel
theorem d_La_law_390 : decode code 390 = .ok (.ifCond .ne 15, 3) := by decide +kernel
theorem d_La_law_393 : decode code 393 = .ok (.aload_n 3, 1) := by decide +kernel
theorem d_La_law_394 : decode code 394 = .ok (.iconst 0, 1) := by decide +kernel
theorem d_La_law_395 : decode code 395 = .ok (.laload, 1) := by decide +kernel
theorem d_La_law_396 : decode code 396 = .ok (.iload 6, 2) := by decide +kernel
theorem d_La_law_398 : decode code 398 = .ok (.i2l, 1) := by decide +kernel
theorem d_La_law_399 : decode code 399 = .ok (.lcmp, 1) := by decide +kernel
theorem d_La_law_400 : decode code 400 = .ok (.ifCond .eq 5, 3) := by decide +kernel
theorem d_La_law_403 : decode code 403 = .ok (.iconst 0, 1) := by decide +kernel
theorem d_La_law_404 : decode code 404 = .ok (.ireturn, 1) := by decide +kernel
theorem d_La_law_405 : decode code 405 = .ok (.goto 704, 3) := by decide +kernel
theorem d_La_law_408 : decode code 408 = .ok (.aload_n 1, 1) := by decide +kernel
theorem d_La_law_409 : decode code 409 = .ok (.aload_n 0, 1) := by decide +kernel
theorem d_La_law_410 : decode code 410 = .ok (.iload 4, 2) := by decide +kernel
theorem d_La_law_412 : decode code 412 = .ok (.iconst 1, 1) := by decide +kernel
theorem d_La_law_413 : decode code 413 = .ok (.iadd, 1) := by decide +kernel
theorem d_La_law_414 : decode code 414 = .ok (.iaload, 1) := by decide +kernel
theorem d_La_law_415 : decode code 415 = .ok (.aload_n 3, 1) := by decide +kernel
theorem d_La_law_416 : decode code 416 = .ok (.invokestatic 90, 3) := by decide +kernel
theorem d_La_law_419 : decode code 419 = .ok (.istore 5, 2) := by decide +kernel
theorem d_La_law_421 : decode code 421 = .ok (.aload_n 2, 1) := by decide +kernel
theorem d_La_law_422 : decode code 422 = .ok (.aload_n 0, 1) := by decide +kernel
theorem d_La_law_423 : decode code 423 = .ok (.iload 4, 2) := by decide +kernel
theorem d_La_law_425 : decode code 425 = .ok (.iconst 1, 1) := by decide +kernel
theorem d_La_law_426 : decode code 426 = .ok (.iadd, 1) := by decide +kernel
theorem d_La_law_427 : decode code 427 = .ok (.iaload, 1) := by decide +kernel
theorem d_La_law_428 : decode code 428 = .ok (.invokevirtual 92, 3) := by decide +kernel
theorem d_La_law_431 : decode code 431 = .ok (.istore 6, 2) := by decide +kernel
theorem d_La_law_433 : decode code 433 = .ok (.aload_n 2, 1) := by decide +kernel
theorem d_La_law_434 : decode code 434 = .ok (.invokevirtual 75, 3) := by decide +kernel
theorem d_La_law_437 : decode code 437 = .ok (.iload 5, 2) := by decide +kernel
theorem d_La_law_439 : decode code 439 = .ok (.if_icmp .eq 5, 3) := by decide +kernel
theorem d_La_law_442 : decode code 442 = .ok (.iconst 0, 1) := by decide +kernel
theorem d_La_law_443 : decode code 443 = .ok (.ireturn, 1) := by decide +kernel
theorem d_La_law_444 : decode code 444 = .ok (.iload 5, 2) := by decide +kernel
theorem d_La_law_446 : decode code 446 = .ok (.ifCond .ne 15, 3) := by decide +kernel
theorem d_La_law_449 : decode code 449 = .ok (.aload_n 3, 1) := by decide +kernel
theorem d_La_law_450 : decode code 450 = .ok (.iconst 0, 1) := by decide +kernel
theorem d_La_law_451 : decode code 451 = .ok (.laload, 1) := by decide +kernel
theorem d_La_law_452 : decode code 452 = .ok (.iload 6, 2) := by decide +kernel
theorem d_La_law_454 : decode code 454 = .ok (.i2l, 1) := by decide +kernel
theorem d_La_law_455 : decode code 455 = .ok (.lcmp, 1) := by decide +kernel
theorem d_La_law_456 : decode code 456 = .ok (.ifCond .eq 5, 3) := by decide +kernel
theorem d_La_law_459 : decode code 459 = .ok (.iconst 0, 1) := by decide +kernel
theorem d_La_law_460 : decode code 460 = .ok (.ireturn, 1) := by decide +kernel
theorem d_La_law_461 : decode code 461 = .ok (.goto 648, 3) := by decide +kernel
theorem d_La_law_464 : decode code 464 = .ok (.aload_n 1, 1) := by decide +kernel
theorem d_La_law_465 : decode code 465 = .ok (.aload_n 0, 1) := by decide +kernel
theorem d_La_law_466 : decode code 466 = .ok (.iload 4, 2) := by decide +kernel
theorem d_La_law_468 : decode code 468 = .ok (.iconst 1, 1) := by decide +kernel
theorem d_La_law_469 : decode code 469 = .ok (.iadd, 1) := by decide +kernel
theorem d_La_law_470 : decode code 470 = .ok (.iaload, 1) := by decide +kernel
theorem d_La_law_471 : decode code 471 = .ok (.aload_n 0, 1) := by decide +kernel
theorem d_La_law_472 : decode code 472 = .ok (.iload 4, 2) := by decide +kernel
theorem d_La_law_474 : decode code 474 = .ok (.iconst 2, 1) := by decide +kernel
theorem d_La_law_475 : decode code 475 = .ok (.iadd, 1) := by decide +kernel
theorem d_La_law_476 : decode code 476 = .ok (.iaload, 1) := by decide +kernel
theorem d_La_law_477 : decode code 477 = .ok (.aload_n 3, 1) := by decide +kernel
theorem d_La_law_478 : decode code 478 = .ok (.invokestatic 93, 3) := by decide +kernel
theorem d_La_law_481 : decode code 481 = .ok (.istore 5, 2) := by decide +kernel
theorem d_La_law_483 : decode code 483 = .ok (.aload_n 2, 1) := by decide +kernel
theorem d_La_law_484 : decode code 484 = .ok (.aload_n 0, 1) := by decide +kernel
theorem d_La_law_485 : decode code 485 = .ok (.iload 4, 2) := by decide +kernel
theorem d_La_law_487 : decode code 487 = .ok (.iconst 1, 1) := by decide +kernel
theorem d_La_law_488 : decode code 488 = .ok (.iadd, 1) := by decide +kernel
theorem d_La_law_489 : decode code 489 = .ok (.iaload, 1) := by decide +kernel
theorem d_La_law_490 : decode code 490 = .ok (.aload_n 0, 1) := by decide +kernel
theorem d_La_law_491 : decode code 491 = .ok (.iload 4, 2) := by decide +kernel
theorem d_La_law_493 : decode code 493 = .ok (.iconst 2, 1) := by decide +kernel
theorem d_La_law_494 : decode code 494 = .ok (.iadd, 1) := by decide +kernel
theorem d_La_law_495 : decode code 495 = .ok (.iaload, 1) := by decide +kernel
theorem d_La_law_496 : decode code 496 = .ok (.invokevirtual 95, 3) := by decide +kernel
theorem d_La_law_499 : decode code 499 = .ok (.istore 6, 2) := by decide +kernel
theorem d_La_law_501 : decode code 501 = .ok (.aload_n 2, 1) := by decide +kernel
theorem d_La_law_502 : decode code 502 = .ok (.invokevirtual 75, 3) := by decide +kernel
theorem d_La_law_505 : decode code 505 = .ok (.iload 5, 2) := by decide +kernel
theorem d_La_law_507 : decode code 507 = .ok (.if_icmp .eq 5, 3) := by decide +kernel
theorem d_La_law_510 : decode code 510 = .ok (.iconst 0, 1) := by decide +kernel
theorem d_La_law_511 : decode code 511 = .ok (.ireturn, 1) := by decide +kernel
theorem d_La_law_512 : decode code 512 = .ok (.iload 5, 2) := by decide +kernel
theorem d_La_law_514 : decode code 514 = .ok (.ifCond .ne 15, 3) := by decide +kernel
theorem d_La_law_517 : decode code 517 = .ok (.aload_n 3, 1) := by decide +kernel
theorem d_La_law_518 : decode code 518 = .ok (.iconst 0, 1) := by decide +kernel
theorem d_La_law_519 : decode code 519 = .ok (.laload, 1) := by decide +kernel
theorem d_La_law_520 : decode code 520 = .ok (.iload 6, 2) := by decide +kernel
theorem d_La_law_522 : decode code 522 = .ok (.i2l, 1) := by decide +kernel
theorem d_La_law_523 : decode code 523 = .ok (.lcmp, 1) := by decide +kernel
theorem d_La_law_524 : decode code 524 = .ok (.ifCond .eq 5, 3) := by decide +kernel
theorem d_La_law_527 : decode code 527 = .ok (.iconst 0, 1) := by decide +kernel
theorem d_La_law_528 : decode code 528 = .ok (.ireturn, 1) := by decide +kernel
theorem d_La_law_529 : decode code 529 = .ok (.goto 580, 3) := by decide +kernel
theorem d_La_law_532 : decode code 532 = .ok (.aload_n 1, 1) := by decide +kernel
theorem d_La_law_533 : decode code 533 = .ok (.aload_n 0, 1) := by decide +kernel
theorem d_La_law_534 : decode code 534 = .ok (.iload 4, 2) := by decide +kernel
theorem d_La_law_536 : decode code 536 = .ok (.iconst 1, 1) := by decide +kernel
theorem d_La_law_537 : decode code 537 = .ok (.iadd, 1) := by decide +kernel
theorem d_La_law_538 : decode code 538 = .ok (.iaload, 1) := by decide +kernel
theorem d_La_law_539 : decode code 539 = .ok (.aload_n 3, 1) := by decide +kernel
theorem d_La_law_540 : decode code 540 = .ok (.invokestatic 96, 3) := by decide +kernel
theorem d_La_law_543 : decode code 543 = .ok (.istore 5, 2) := by decide +kernel
theorem d_La_law_545 : decode code 545 = .ok (.aload_n 2, 1) := by decide +kernel
theorem d_La_law_546 : decode code 546 = .ok (.aload_n 0, 1) := by decide +kernel
theorem d_La_law_547 : decode code 547 = .ok (.iload 4, 2) := by decide +kernel
theorem d_La_law_549 : decode code 549 = .ok (.iconst 1, 1) := by decide +kernel
theorem d_La_law_550 : decode code 550 = .ok (.iadd, 1) := by decide +kernel
theorem d_La_law_551 : decode code 551 = .ok (.iaload, 1) := by decide +kernel
theorem d_La_law_552 : decode code 552 = .ok (.invokevirtual 98, 3) := by decide +kernel
theorem d_La_law_555 : decode code 555 = .ok (.istore 6, 2) := by decide +kernel
theorem d_La_law_557 : decode code 557 = .ok (.aload_n 2, 1) := by decide +kernel
theorem d_La_law_558 : decode code 558 = .ok (.invokevirtual 75, 3) := by decide +kernel
theorem d_La_law_561 : decode code 561 = .ok (.iload 5, 2) := by decide +kernel
theorem d_La_law_563 : decode code 563 = .ok (.if_icmp .eq 5, 3) := by decide +kernel
theorem d_La_law_566 : decode code 566 = .ok (.iconst 0, 1) := by decide +kernel
theorem d_La_law_567 : decode code 567 = .ok (.ireturn, 1) := by decide +kernel
theorem d_La_law_568 : decode code 568 = .ok (.iload 5, 2) := by decide +kernel
theorem d_La_law_570 : decode code 570 = .ok (.ifCond .ne 15, 3) := by decide +kernel
theorem d_La_law_573 : decode code 573 = .ok (.aload_n 3, 1) := by decide +kernel
theorem d_La_law_574 : decode code 574 = .ok (.iconst 0, 1) := by decide +kernel
theorem d_La_law_575 : decode code 575 = .ok (.laload, 1) := by decide +kernel
theorem d_La_law_576 : decode code 576 = .ok (.iload 6, 2) := by decide +kernel
theorem d_La_law_578 : decode code 578 = .ok (.i2l, 1) := by decide +kernel
theorem d_La_law_579 : decode code 579 = .ok (.lcmp, 1) := by decide +kernel
theorem d_La_law_580 : decode code 580 = .ok (.ifCond .eq 5, 3) := by decide +kernel
theorem d_La_law_583 : decode code 583 = .ok (.iconst 0, 1) := by decide +kernel
theorem d_La_law_584 : decode code 584 = .ok (.ireturn, 1) := by decide +kernel
theorem d_La_law_585 : decode code 585 = .ok (.goto 524, 3) := by decide +kernel
theorem d_La_law_588 : decode code 588 = .ok (.aload_n 1, 1) := by decide +kernel
theorem d_La_law_589 : decode code 589 = .ok (.aload_n 0, 1) := by decide +kernel
theorem d_La_law_590 : decode code 590 = .ok (.iload 4, 2) := by decide +kernel
theorem d_La_law_592 : decode code 592 = .ok (.iconst 1, 1) := by decide +kernel
theorem d_La_law_593 : decode code 593 = .ok (.iadd, 1) := by decide +kernel
theorem d_La_law_594 : decode code 594 = .ok (.iaload, 1) := by decide +kernel
theorem d_La_law_595 : decode code 595 = .ok (.aload_n 0, 1) := by decide +kernel
theorem d_La_law_596 : decode code 596 = .ok (.iload 4, 2) := by decide +kernel
theorem d_La_law_598 : decode code 598 = .ok (.iconst 2, 1) := by decide +kernel
theorem d_La_law_599 : decode code 599 = .ok (.iadd, 1) := by decide +kernel
theorem d_La_law_600 : decode code 600 = .ok (.iaload, 1) := by decide +kernel
theorem d_La_law_601 : decode code 601 = .ok (.aload_n 3, 1) := by decide +kernel
theorem d_La_law_602 : decode code 602 = .ok (.invokestatic 99, 3) := by decide +kernel
theorem d_La_law_605 : decode code 605 = .ok (.istore 5, 2) := by decide +kernel
theorem d_La_law_607 : decode code 607 = .ok (.aload_n 2, 1) := by decide +kernel
theorem d_La_law_608 : decode code 608 = .ok (.aload_n 0, 1) := by decide +kernel
theorem d_La_law_609 : decode code 609 = .ok (.iload 4, 2) := by decide +kernel
theorem d_La_law_611 : decode code 611 = .ok (.iconst 1, 1) := by decide +kernel
theorem d_La_law_612 : decode code 612 = .ok (.iadd, 1) := by decide +kernel
theorem d_La_law_613 : decode code 613 = .ok (.iaload, 1) := by decide +kernel
theorem d_La_law_614 : decode code 614 = .ok (.aload_n 0, 1) := by decide +kernel
theorem d_La_law_615 : decode code 615 = .ok (.iload 4, 2) := by decide +kernel
theorem d_La_law_617 : decode code 617 = .ok (.iconst 2, 1) := by decide +kernel
theorem d_La_law_618 : decode code 618 = .ok (.iadd, 1) := by decide +kernel
theorem d_La_law_619 : decode code 619 = .ok (.iaload, 1) := by decide +kernel
theorem d_La_law_620 : decode code 620 = .ok (.invokevirtual 101, 3) := by decide +kernel
theorem d_La_law_623 : decode code 623 = .ok (.istore 6, 2) := by decide +kernel
theorem d_La_law_625 : decode code 625 = .ok (.aload_n 2, 1) := by decide +kernel
theorem d_La_law_626 : decode code 626 = .ok (.invokevirtual 75, 3) := by decide +kernel
theorem d_La_law_629 : decode code 629 = .ok (.iload 5, 2) := by decide +kernel
theorem d_La_law_631 : decode code 631 = .ok (.if_icmp .eq 5, 3) := by decide +kernel
theorem d_La_law_634 : decode code 634 = .ok (.iconst 0, 1) := by decide +kernel
theorem d_La_law_635 : decode code 635 = .ok (.ireturn, 1) := by decide +kernel
theorem d_La_law_636 : decode code 636 = .ok (.iload 5, 2) := by decide +kernel
theorem d_La_law_638 : decode code 638 = .ok (.ifCond .ne 15, 3) := by decide +kernel
theorem d_La_law_641 : decode code 641 = .ok (.aload_n 3, 1) := by decide +kernel
theorem d_La_law_642 : decode code 642 = .ok (.iconst 0, 1) := by decide +kernel
theorem d_La_law_643 : decode code 643 = .ok (.laload, 1) := by decide +kernel
theorem d_La_law_644 : decode code 644 = .ok (.iload 6, 2) := by decide +kernel
theorem d_La_law_646 : decode code 646 = .ok (.i2l, 1) := by decide +kernel
theorem d_La_law_647 : decode code 647 = .ok (.lcmp, 1) := by decide +kernel
theorem d_La_law_648 : decode code 648 = .ok (.ifCond .eq 5, 3) := by decide +kernel
theorem d_La_law_651 : decode code 651 = .ok (.iconst 0, 1) := by decide +kernel
theorem d_La_law_652 : decode code 652 = .ok (.ireturn, 1) := by decide +kernel
theorem d_La_law_653 : decode code 653 = .ok (.goto 456, 3) := by decide +kernel
theorem d_La_law_656 : decode code 656 = .ok (.aload_n 1, 1) := by decide +kernel
end
section
theorem d_La_law_657 : decode code 657 = .ok (.aload_n 0, 1) := by decide +kernel
theorem d_La_law_658 : decode code 658 = .ok (.iload 4, 2) := by decide +kernel
theorem d_La_law_660 : decode code 660 = .ok (.iconst 1, 1) := by decide +kernel
theorem d_La_law_661 : decode code 661 = .ok (.iadd, 1) := by decide +kernel
theorem d_La_law_662 : decode code 662 = .ok (.iaload, 1) := by decide +kernel
theorem d_La_law_663 : decode code 663 = .ok (.aload_n 3, 1) := by decide +kernel
theorem d_La_law_664 : decode code 664 = .ok (.invokestatic 102, 3) := by decide +kernel
theorem d_La_law_667 : decode code 667 = .ok (.istore 5, 2) := by decide +kernel
theorem d_La_law_669 : decode code 669 = .ok (.aload_n 2, 1) := by decide +kernel
theorem d_La_law_670 : decode code 670 = .ok (.aload_n 0, 1) := by decide +kernel
theorem d_La_law_671 : decode code 671 = .ok (.iload 4, 2) := by decide +kernel
theorem d_La_law_673 : decode code 673 = .ok (.iconst 1, 1) := by decide +kernel
theorem d_La_law_674 : decode code 674 = .ok (.iadd, 1) := by decide +kernel
theorem d_La_law_675 : decode code 675 = .ok (.iaload, 1) := by decide +kernel
theorem d_La_law_676 : decode code 676 = .ok (.invokevirtual 104, 3) := by decide +kernel
theorem d_La_law_679 : decode code 679 = .ok (.istore 6, 2) := by decide +kernel
theorem d_La_law_681 : decode code 681 = .ok (.aload_n 2, 1) := by decide +kernel
theorem d_La_law_682 : decode code 682 = .ok (.invokevirtual 75, 3) := by decide +kernel
theorem d_La_law_685 : decode code 685 = .ok (.iload 5, 2) := by decide +kernel
theorem d_La_law_687 : decode code 687 = .ok (.if_icmp .eq 5, 3) := by decide +kernel
theorem d_La_law_690 : decode code 690 = .ok (.iconst 0, 1) := by decide +kernel
theorem d_La_law_691 : decode code 691 = .ok (.ireturn, 1) := by decide +kernel
theorem d_La_law_692 : decode code 692 = .ok (.iload 5, 2) := by decide +kernel
theorem d_La_law_694 : decode code 694 = .ok (.ifCond .ne 15, 3) := by decide +kernel
theorem d_La_law_697 : decode code 697 = .ok (.aload_n 3, 1) := by decide +kernel
theorem d_La_law_698 : decode code 698 = .ok (.iconst 0, 1) := by decide +kernel
theorem d_La_law_699 : decode code 699 = .ok (.laload, 1) := by decide +kernel
theorem d_La_law_700 : decode code 700 = .ok (.iload 6, 2) := by decide +kernel
theorem d_La_law_702 : decode code 702 = .ok (.i2l, 1) := by decide +kernel
theorem d_La_law_703 : decode code 703 = .ok (.lcmp, 1) := by decide +kernel
theorem d_La_law_704 : decode code 704 = .ok (.ifCond .eq 5, 3) := by decide +kernel
theorem d_La_law_707 : decode code 707 = .ok (.iconst 0, 1) := by decide +kernel
theorem d_La_law_708 : decode code 708 = .ok (.ireturn, 1) := by decide +kernel
theorem d_La_law_709 : decode code 709 = .ok (.goto 400, 3) := by decide +kernel
theorem d_La_law_712 : decode code 712 = .ok (.aload_n 1, 1) := by decide +kernel
theorem d_La_law_713 : decode code 713 = .ok (.aload_n 0, 1) := by decide +kernel
theorem d_La_law_714 : decode code 714 = .ok (.iload 4, 2) := by decide +kernel
theorem d_La_law_716 : decode code 716 = .ok (.iconst 1, 1) := by decide +kernel
theorem d_La_law_717 : decode code 717 = .ok (.iadd, 1) := by decide +kernel
theorem d_La_law_718 : decode code 718 = .ok (.iaload, 1) := by decide +kernel
theorem d_La_law_719 : decode code 719 = .ok (.aload_n 0, 1) := by decide +kernel
theorem d_La_law_720 : decode code 720 = .ok (.iload 4, 2) := by decide +kernel
theorem d_La_law_722 : decode code 722 = .ok (.iconst 2, 1) := by decide +kernel
theorem d_La_law_723 : decode code 723 = .ok (.iadd, 1) := by decide +kernel
theorem d_La_law_724 : decode code 724 = .ok (.iaload, 1) := by decide +kernel
theorem d_La_law_725 : decode code 725 = .ok (.aload_n 3, 1) := by decide +kernel
theorem d_La_law_726 : decode code 726 = .ok (.invokestatic 105, 3) := by decide +kernel
theorem d_La_law_729 : decode code 729 = .ok (.istore 5, 2) := by decide +kernel
theorem d_La_law_731 : decode code 731 = .ok (.aload_n 2, 1) := by decide +kernel
theorem d_La_law_732 : decode code 732 = .ok (.aload_n 0, 1) := by decide +kernel
theorem d_La_law_733 : decode code 733 = .ok (.iload 4, 2) := by decide +kernel
theorem d_La_law_735 : decode code 735 = .ok (.iconst 1, 1) := by decide +kernel
theorem d_La_law_736 : decode code 736 = .ok (.iadd, 1) := by decide +kernel
theorem d_La_law_737 : decode code 737 = .ok (.iaload, 1) := by decide +kernel
theorem d_La_law_738 : decode code 738 = .ok (.aload_n 0, 1) := by decide +kernel
theorem d_La_law_739 : decode code 739 = .ok (.iload 4, 2) := by decide +kernel
theorem d_La_law_741 : decode code 741 = .ok (.iconst 2, 1) := by decide +kernel
theorem d_La_law_742 : decode code 742 = .ok (.iadd, 1) := by decide +kernel
theorem d_La_law_743 : decode code 743 = .ok (.iaload, 1) := by decide +kernel
theorem d_La_law_744 : decode code 744 = .ok (.invokevirtual 107, 3) := by decide +kernel
theorem d_La_law_747 : decode code 747 = .ok (.istore 6, 2) := by decide +kernel
theorem d_La_law_749 : decode code 749 = .ok (.aload_n 2, 1) := by decide +kernel
theorem d_La_law_750 : decode code 750 = .ok (.invokevirtual 75, 3) := by decide +kernel
theorem d_La_law_753 : decode code 753 = .ok (.iload 5, 2) := by decide +kernel
theorem d_La_law_755 : decode code 755 = .ok (.if_icmp .eq 5, 3) := by decide +kernel
theorem d_La_law_758 : decode code 758 = .ok (.iconst 0, 1) := by decide +kernel
theorem d_La_law_759 : decode code 759 = .ok (.ireturn, 1) := by decide +kernel
theorem d_La_law_760 : decode code 760 = .ok (.iload 5, 2) := by decide +kernel
theorem d_La_law_762 : decode code 762 = .ok (.ifCond .ne 15, 3) := by decide +kernel
theorem d_La_law_765 : decode code 765 = .ok (.aload_n 3, 1) := by decide +kernel
theorem d_La_law_766 : decode code 766 = .ok (.iconst 0, 1) := by decide +kernel
theorem d_La_law_767 : decode code 767 = .ok (.laload, 1) := by decide +kernel
theorem d_La_law_768 : decode code 768 = .ok (.iload 6, 2) := by decide +kernel
theorem d_La_law_770 : decode code 770 = .ok (.i2l, 1) := by decide +kernel
theorem d_La_law_771 : decode code 771 = .ok (.lcmp, 1) := by decide +kernel
theorem d_La_law_772 : decode code 772 = .ok (.ifCond .eq 5, 3) := by decide +kernel
theorem d_La_law_775 : decode code 775 = .ok (.iconst 0, 1) := by decide +kernel
theorem d_La_law_776 : decode code 776 = .ok (.ireturn, 1) := by decide +kernel
theorem d_La_law_777 : decode code 777 = .ok (.goto 332, 3) := by decide +kernel
theorem d_La_law_780 : decode code 780 = .ok (.aload_n 1, 1) := by decide +kernel
theorem d_La_law_781 : decode code 781 = .ok (.aload_n 0, 1) := by decide +kernel
theorem d_La_law_782 : decode code 782 = .ok (.iload 4, 2) := by decide +kernel
theorem d_La_law_784 : decode code 784 = .ok (.iconst 1, 1) := by decide +kernel
theorem d_La_law_785 : decode code 785 = .ok (.iadd, 1) := by decide +kernel
theorem d_La_law_786 : decode code 786 = .ok (.iaload, 1) := by decide +kernel
theorem d_La_law_787 : decode code 787 = .ok (.aload_n 0, 1) := by decide +kernel
theorem d_La_law_788 : decode code 788 = .ok (.iload 4, 2) := by decide +kernel
theorem d_La_law_790 : decode code 790 = .ok (.iconst 2, 1) := by decide +kernel
theorem d_La_law_791 : decode code 791 = .ok (.iadd, 1) := by decide +kernel
theorem d_La_law_792 : decode code 792 = .ok (.iaload, 1) := by decide +kernel
theorem d_La_law_793 : decode code 793 = .ok (.aload_n 3, 1) := by decide +kernel
theorem d_La_law_794 : decode code 794 = .ok (.invokestatic 108, 3) := by decide +kernel
theorem d_La_law_797 : decode code 797 = .ok (.istore 5, 2) := by decide +kernel
theorem d_La_law_799 : decode code 799 = .ok (.aload_n 2, 1) := by decide +kernel
theorem d_La_law_800 : decode code 800 = .ok (.aload_n 0, 1) := by decide +kernel
theorem d_La_law_801 : decode code 801 = .ok (.iload 4, 2) := by decide +kernel
theorem d_La_law_803 : decode code 803 = .ok (.iconst 1, 1) := by decide +kernel
theorem d_La_law_804 : decode code 804 = .ok (.iadd, 1) := by decide +kernel
theorem d_La_law_805 : decode code 805 = .ok (.iaload, 1) := by decide +kernel
theorem d_La_law_806 : decode code 806 = .ok (.aload_n 0, 1) := by decide +kernel
theorem d_La_law_807 : decode code 807 = .ok (.iload 4, 2) := by decide +kernel
theorem d_La_law_809 : decode code 809 = .ok (.iconst 2, 1) := by decide +kernel
theorem d_La_law_810 : decode code 810 = .ok (.iadd, 1) := by decide +kernel
theorem d_La_law_811 : decode code 811 = .ok (.iaload, 1) := by decide +kernel
theorem d_La_law_812 : decode code 812 = .ok (.invokevirtual 110, 3) := by decide +kernel
theorem d_La_law_815 : decode code 815 = .ok (.istore 6, 2) := by decide +kernel
theorem d_La_law_817 : decode code 817 = .ok (.aload_n 2, 1) := by decide +kernel
theorem d_La_law_818 : decode code 818 = .ok (.invokevirtual 75, 3) := by decide +kernel
theorem d_La_law_821 : decode code 821 = .ok (.iload 5, 2) := by decide +kernel
theorem d_La_law_823 : decode code 823 = .ok (.if_icmp .eq 5, 3) := by decide +kernel
theorem d_La_law_826 : decode code 826 = .ok (.iconst 0, 1) := by decide +kernel
theorem d_La_law_827 : decode code 827 = .ok (.ireturn, 1) := by decide +kernel
theorem d_La_law_828 : decode code 828 = .ok (.iload 5, 2) := by decide +kernel
theorem d_La_law_830 : decode code 830 = .ok (.ifCond .ne 15, 3) := by decide +kernel
theorem d_La_law_833 : decode code 833 = .ok (.aload_n 3, 1) := by decide +kernel
theorem d_La_law_834 : decode code 834 = .ok (.iconst 0, 1) := by decide +kernel
theorem d_La_law_835 : decode code 835 = .ok (.laload, 1) := by decide +kernel
theorem d_La_law_836 : decode code 836 = .ok (.iload 6, 2) := by decide +kernel
theorem d_La_law_838 : decode code 838 = .ok (.i2l, 1) := by decide +kernel
theorem d_La_law_839 : decode code 839 = .ok (.lcmp, 1) := by decide +kernel
theorem d_La_law_840 : decode code 840 = .ok (.ifCond .eq 5, 3) := by decide +kernel
theorem d_La_law_843 : decode code 843 = .ok (.iconst 0, 1) := by decide +kernel
theorem d_La_law_844 : decode code 844 = .ok (.ireturn, 1) := by decide +kernel
theorem d_La_law_845 : decode code 845 = .ok (.goto 264, 3) := by decide +kernel
theorem d_La_law_848 : decode code 848 = .ok (.aload_n 1, 1) := by decide +kernel
theorem d_La_law_849 : decode code 849 = .ok (.aload_n 0, 1) := by decide +kernel
theorem d_La_law_850 : decode code 850 = .ok (.iload 4, 2) := by decide +kernel
theorem d_La_law_852 : decode code 852 = .ok (.iconst 1, 1) := by decide +kernel
theorem d_La_law_853 : decode code 853 = .ok (.iadd, 1) := by decide +kernel
theorem d_La_law_854 : decode code 854 = .ok (.iaload, 1) := by decide +kernel
theorem d_La_law_855 : decode code 855 = .ok (.aload_n 0, 1) := by decide +kernel
theorem d_La_law_856 : decode code 856 = .ok (.iload 4, 2) := by decide +kernel
theorem d_La_law_858 : decode code 858 = .ok (.iconst 2, 1) := by decide +kernel
theorem d_La_law_859 : decode code 859 = .ok (.iadd, 1) := by decide +kernel
theorem d_La_law_860 : decode code 860 = .ok (.iaload, 1) := by decide +kernel
theorem d_La_law_861 : decode code 861 = .ok (.ifCond .eq 7, 3) := by decide +kernel
theorem d_La_law_864 : decode code 864 = .ok (.iconst 1, 1) := by decide +kernel
theorem d_La_law_865 : decode code 865 = .ok (.goto 4, 3) := by decide +kernel
theorem d_La_law_868 : decode code 868 = .ok (.iconst 0, 1) := by decide +kernel
theorem d_La_law_869 : decode code 869 = .ok (.aload_n 3, 1) := by decide +kernel
theorem d_La_law_870 : decode code 870 = .ok (.invokestatic 111, 3) := by decide +kernel
theorem d_La_law_873 : decode code 873 = .ok (.istore 5, 2) := by decide +kernel
theorem d_La_law_875 : decode code 875 = .ok (.aload_n 2, 1) := by decide +kernel
theorem d_La_law_876 : decode code 876 = .ok (.aload_n 0, 1) := by decide +kernel
theorem d_La_law_877 : decode code 877 = .ok (.iload 4, 2) := by decide +kernel
theorem d_La_law_879 : decode code 879 = .ok (.iconst 1, 1) := by decide +kernel
theorem d_La_law_880 : decode code 880 = .ok (.iadd, 1) := by decide +kernel
theorem d_La_law_881 : decode code 881 = .ok (.iaload, 1) := by decide +kernel
theorem d_La_law_882 : decode code 882 = .ok (.aload_n 0, 1) := by decide +kernel
theorem d_La_law_883 : decode code 883 = .ok (.iload 4, 2) := by decide +kernel
theorem d_La_law_885 : decode code 885 = .ok (.iconst 2, 1) := by decide +kernel
theorem d_La_law_886 : decode code 886 = .ok (.iadd, 1) := by decide +kernel
theorem d_La_law_887 : decode code 887 = .ok (.iaload, 1) := by decide +kernel
theorem d_La_law_888 : decode code 888 = .ok (.ifCond .eq 7, 3) := by decide +kernel
theorem d_La_law_891 : decode code 891 = .ok (.iconst 1, 1) := by decide +kernel
theorem d_La_law_892 : decode code 892 = .ok (.goto 4, 3) := by decide +kernel
theorem d_La_law_895 : decode code 895 = .ok (.iconst 0, 1) := by decide +kernel
theorem d_La_law_896 : decode code 896 = .ok (.invokevirtual 114, 3) := by decide +kernel
theorem d_La_law_899 : decode code 899 = .ok (.istore 6, 2) := by decide +kernel
theorem d_La_law_901 : decode code 901 = .ok (.aload_n 2, 1) := by decide +kernel
theorem d_La_law_902 : decode code 902 = .ok (.invokevirtual 75, 3) := by decide +kernel
theorem d_La_law_905 : decode code 905 = .ok (.iload 5, 2) := by decide +kernel
theorem d_La_law_907 : decode code 907 = .ok (.if_icmp .eq 5, 3) := by decide +kernel
theorem d_La_law_910 : decode code 910 = .ok (.iconst 0, 1) := by decide +kernel
theorem d_La_law_911 : decode code 911 = .ok (.ireturn, 1) := by decide +kernel
theorem d_La_law_912 : decode code 912 = .ok (.iload 5, 2) := by decide +kernel
theorem d_La_law_914 : decode code 914 = .ok (.ifCond .ne 15, 3) := by decide +kernel
theorem d_La_law_917 : decode code 917 = .ok (.aload_n 3, 1) := by decide +kernel
theorem d_La_law_918 : decode code 918 = .ok (.iconst 0, 1) := by decide +kernel
theorem d_La_law_919 : decode code 919 = .ok (.laload, 1) := by decide +kernel
theorem d_La_law_920 : decode code 920 = .ok (.iload 6, 2) := by decide +kernel
theorem d_La_law_922 : decode code 922 = .ok (.i2l, 1) := by decide +kernel
theorem d_La_law_923 : decode code 923 = .ok (.lcmp, 1) := by decide +kernel
theorem d_La_law_924 : decode code 924 = .ok (.ifCond .eq 5, 3) := by decide +kernel
theorem d_La_law_927 : decode code 927 = .ok (.iconst 0, 1) := by decide +kernel
theorem d_La_law_928 : decode code 928 = .ok (.ireturn, 1) := by decide +kernel
theorem d_La_law_929 : decode code 929 = .ok (.goto 180, 3) := by decide +kernel
theorem d_La_law_932 : decode code 932 = .ok (.aload_n 1, 1) := by decide +kernel
theorem d_La_law_933 : decode code 933 = .ok (.aload_n 0, 1) := by decide +kernel
theorem d_La_law_934 : decode code 934 = .ok (.iload 4, 2) := by decide +kernel
theorem d_La_law_936 : decode code 936 = .ok (.iconst 1, 1) := by decide +kernel
theorem d_La_law_937 : decode code 937 = .ok (.iadd, 1) := by decide +kernel
theorem d_La_law_938 : decode code 938 = .ok (.iaload, 1) := by decide +kernel
theorem d_La_law_939 : decode code 939 = .ok (.aload_n 0, 1) := by decide +kernel
theorem d_La_law_940 : decode code 940 = .ok (.iload 4, 2) := by decide +kernel
theorem d_La_law_942 : decode code 942 = .ok (.iconst 2, 1) := by decide +kernel
theorem d_La_law_943 : decode code 943 = .ok (.iadd, 1) := by decide +kernel
theorem d_La_law_944 : decode code 944 = .ok (.iaload, 1) := by decide +kernel
theorem d_La_law_945 : decode code 945 = .ok (.aload_n 3, 1) := by decide +kernel
theorem d_La_law_946 : decode code 946 = .ok (.invokestatic 115, 3) := by decide +kernel
theorem d_La_law_949 : decode code 949 = .ok (.istore 5, 2) := by decide +kernel
theorem d_La_law_951 : decode code 951 = .ok (.aload_n 2, 1) := by decide +kernel
theorem d_La_law_952 : decode code 952 = .ok (.aload_n 0, 1) := by decide +kernel
theorem d_La_law_953 : decode code 953 = .ok (.iload 4, 2) := by decide +kernel
theorem d_La_law_955 : decode code 955 = .ok (.iconst 1, 1) := by decide +kernel
theorem d_La_law_956 : decode code 956 = .ok (.iadd, 1) := by decide +kernel
theorem d_La_law_957 : decode code 957 = .ok (.iaload, 1) := by decide +kernel
theorem d_La_law_958 : decode code 958 = .ok (.aload_n 0, 1) := by decide +kernel
theorem d_La_law_959 : decode code 959 = .ok (.iload 4, 2) := by decide +kernel
theorem d_La_law_961 : decode code 961 = .ok (.iconst 2, 1) := by decide +kernel
end
section
theorem d_La_law_962 : decode code 962 = .ok (.iadd, 1) := by decide +kernel
theorem d_La_law_963 : decode code 963 = .ok (.iaload, 1) := by decide +kernel
theorem d_La_law_964 : decode code 964 = .ok (.invokevirtual 117, 3) := by decide +kernel
theorem d_La_law_967 : decode code 967 = .ok (.istore 6, 2) := by decide +kernel
theorem d_La_law_969 : decode code 969 = .ok (.aload_n 2, 1) := by decide +kernel
theorem d_La_law_970 : decode code 970 = .ok (.invokevirtual 75, 3) := by decide +kernel
theorem d_La_law_973 : decode code 973 = .ok (.iload 5, 2) := by decide +kernel
theorem d_La_law_975 : decode code 975 = .ok (.if_icmp .eq 5, 3) := by decide +kernel
theorem d_La_law_978 : decode code 978 = .ok (.iconst 0, 1) := by decide +kernel
theorem d_La_law_979 : decode code 979 = .ok (.ireturn, 1) := by decide +kernel
theorem d_La_law_980 : decode code 980 = .ok (.iload 5, 2) := by decide +kernel
theorem d_La_law_982 : decode code 982 = .ok (.ifCond .ne 15, 3) := by decide +kernel
theorem d_La_law_985 : decode code 985 = .ok (.aload_n 3, 1) := by decide +kernel
theorem d_La_law_986 : decode code 986 = .ok (.iconst 0, 1) := by decide +kernel
theorem d_La_law_987 : decode code 987 = .ok (.laload, 1) := by decide +kernel
theorem d_La_law_988 : decode code 988 = .ok (.iload 6, 2) := by decide +kernel
theorem d_La_law_990 : decode code 990 = .ok (.i2l, 1) := by decide +kernel
theorem d_La_law_991 : decode code 991 = .ok (.lcmp, 1) := by decide +kernel
theorem d_La_law_992 : decode code 992 = .ok (.ifCond .eq 5, 3) := by decide +kernel
theorem d_La_law_995 : decode code 995 = .ok (.iconst 0, 1) := by decide +kernel
theorem d_La_law_996 : decode code 996 = .ok (.ireturn, 1) := by decide +kernel
theorem d_La_law_997 : decode code 997 = .ok (.goto 112, 3) := by decide +kernel
theorem d_La_law_1000 : decode code 1000 = .ok (.aload_n 1, 1) := by decide +kernel
theorem d_La_law_1001 : decode code 1001 = .ok (.aload_n 0, 1) := by decide +kernel
theorem d_La_law_1002 : decode code 1002 = .ok (.iload 4, 2) := by decide +kernel
theorem d_La_law_1004 : decode code 1004 = .ok (.iconst 1, 1) := by decide +kernel
theorem d_La_law_1005 : decode code 1005 = .ok (.iadd, 1) := by decide +kernel
theorem d_La_law_1006 : decode code 1006 = .ok (.iaload, 1) := by decide +kernel
theorem d_La_law_1007 : decode code 1007 = .ok (.aload_n 0, 1) := by decide +kernel
theorem d_La_law_1008 : decode code 1008 = .ok (.iload 4, 2) := by decide +kernel
theorem d_La_law_1010 : decode code 1010 = .ok (.iconst 2, 1) := by decide +kernel
theorem d_La_law_1011 : decode code 1011 = .ok (.iadd, 1) := by decide +kernel
theorem d_La_law_1012 : decode code 1012 = .ok (.iaload, 1) := by decide +kernel
theorem d_La_law_1013 : decode code 1013 = .ok (.aload_n 3, 1) := by decide +kernel
theorem d_La_law_1014 : decode code 1014 = .ok (.invokestatic 118, 3) := by decide +kernel
theorem d_La_law_1017 : decode code 1017 = .ok (.istore 5, 2) := by decide +kernel
theorem d_La_law_1019 : decode code 1019 = .ok (.aload_n 2, 1) := by decide +kernel
theorem d_La_law_1020 : decode code 1020 = .ok (.aload_n 0, 1) := by decide +kernel
theorem d_La_law_1021 : decode code 1021 = .ok (.iload 4, 2) := by decide +kernel
theorem d_La_law_1023 : decode code 1023 = .ok (.iconst 1, 1) := by decide +kernel
theorem d_La_law_1024 : decode code 1024 = .ok (.iadd, 1) := by decide +kernel
theorem d_La_law_1025 : decode code 1025 = .ok (.iaload, 1) := by decide +kernel
theorem d_La_law_1026 : decode code 1026 = .ok (.aload_n 0, 1) := by decide +kernel
theorem d_La_law_1027 : decode code 1027 = .ok (.iload 4, 2) := by decide +kernel
theorem d_La_law_1029 : decode code 1029 = .ok (.iconst 2, 1) := by decide +kernel
theorem d_La_law_1030 : decode code 1030 = .ok (.iadd, 1) := by decide +kernel
theorem d_La_law_1031 : decode code 1031 = .ok (.iaload, 1) := by decide +kernel
theorem d_La_law_1032 : decode code 1032 = .ok (.invokevirtual 120, 3) := by decide +kernel
theorem d_La_law_1035 : decode code 1035 = .ok (.istore 6, 2) := by decide +kernel
theorem d_La_law_1037 : decode code 1037 = .ok (.aload_n 2, 1) := by decide +kernel
theorem d_La_law_1038 : decode code 1038 = .ok (.invokevirtual 75, 3) := by decide +kernel
theorem d_La_law_1041 : decode code 1041 = .ok (.iload 5, 2) := by decide +kernel
theorem d_La_law_1043 : decode code 1043 = .ok (.if_icmp .eq 5, 3) := by decide +kernel
theorem d_La_law_1046 : decode code 1046 = .ok (.iconst 0, 1) := by decide +kernel
theorem d_La_law_1047 : decode code 1047 = .ok (.ireturn, 1) := by decide +kernel
theorem d_La_law_1048 : decode code 1048 = .ok (.iload 5, 2) := by decide +kernel
theorem d_La_law_1050 : decode code 1050 = .ok (.ifCond .ne 15, 3) := by decide +kernel
theorem d_La_law_1053 : decode code 1053 = .ok (.aload_n 3, 1) := by decide +kernel
theorem d_La_law_1054 : decode code 1054 = .ok (.iconst 0, 1) := by decide +kernel
theorem d_La_law_1055 : decode code 1055 = .ok (.laload, 1) := by decide +kernel
theorem d_La_law_1056 : decode code 1056 = .ok (.iload 6, 2) := by decide +kernel
theorem d_La_law_1058 : decode code 1058 = .ok (.i2l, 1) := by decide +kernel
theorem d_La_law_1059 : decode code 1059 = .ok (.lcmp, 1) := by decide +kernel
theorem d_La_law_1060 : decode code 1060 = .ok (.ifCond .eq 5, 3) := by decide +kernel
theorem d_La_law_1063 : decode code 1063 = .ok (.iconst 0, 1) := by decide +kernel
theorem d_La_law_1064 : decode code 1064 = .ok (.ireturn, 1) := by decide +kernel
theorem d_La_law_1065 : decode code 1065 = .ok (.goto 44, 3) := by decide +kernel
theorem d_La_law_1068 : decode code 1068 = .ok (.aload_n 1, 1) := by decide +kernel
theorem d_La_law_1069 : decode code 1069 = .ok (.aload_n 0, 1) := by decide +kernel
theorem d_La_law_1070 : decode code 1070 = .ok (.iload 4, 2) := by decide +kernel
theorem d_La_law_1072 : decode code 1072 = .ok (.iconst 1, 1) := by decide +kernel
theorem d_La_law_1073 : decode code 1073 = .ok (.iadd, 1) := by decide +kernel
theorem d_La_law_1074 : decode code 1074 = .ok (.iaload, 1) := by decide +kernel
theorem d_La_law_1075 : decode code 1075 = .ok (.ifCond .eq 7, 3) := by decide +kernel
theorem d_La_law_1078 : decode code 1078 = .ok (.iconst 1, 1) := by decide +kernel
theorem d_La_law_1079 : decode code 1079 = .ok (.goto 4, 3) := by decide +kernel
theorem d_La_law_1082 : decode code 1082 = .ok (.iconst 0, 1) := by decide +kernel
theorem d_La_law_1083 : decode code 1083 = .ok (.invokevirtual 121, 3) := by decide +kernel
theorem d_La_law_1086 : decode code 1086 = .ok (.aload_n 2, 1) := by decide +kernel
theorem d_La_law_1087 : decode code 1087 = .ok (.aload_n 0, 1) := by decide +kernel
theorem d_La_law_1088 : decode code 1088 = .ok (.iload 4, 2) := by decide +kernel
theorem d_La_law_1090 : decode code 1090 = .ok (.iconst 1, 1) := by decide +kernel
theorem d_La_law_1091 : decode code 1091 = .ok (.iadd, 1) := by decide +kernel
theorem d_La_law_1092 : decode code 1092 = .ok (.iaload, 1) := by decide +kernel
theorem d_La_law_1093 : decode code 1093 = .ok (.ifCond .eq 7, 3) := by decide +kernel
theorem d_La_law_1096 : decode code 1096 = .ok (.iconst 1, 1) := by decide +kernel
theorem d_La_law_1097 : decode code 1097 = .ok (.goto 4, 3) := by decide +kernel
theorem d_La_law_1100 : decode code 1100 = .ok (.iconst 0, 1) := by decide +kernel
theorem d_La_law_1101 : decode code 1101 = .ok (.invokevirtual 125, 3) := by decide +kernel
theorem d_La_law_1104 : decode code 1104 = .ok (.if_icmp .eq 5, 3) := by decide +kernel
theorem d_La_law_1107 : decode code 1107 = .ok (.iconst 0, 1) := by decide +kernel
theorem d_La_law_1108 : decode code 1108 = .ok (.ireturn, 1) := by decide +kernel
theorem d_La_law_1109 : decode code 1109 = .ok (.iinc 4 4, 3) := by decide +kernel
theorem d_La_law_1112 : decode code 1112 = .ok (.goto (-1077), 3) := by decide +kernel
theorem d_La_law_1115 : decode code 1115 = .ok (.iconst 1, 1) := by decide +kernel
theorem d_La_law_1116 : decode code 1116 = .ok (.ireturn, 1) := by decide +kernel
end
section
/-! Own layer: a memory of whole numbers over a fixed row of cells. Cell k of the row L is an object (its class's place, its fields) or an array (0: of ints, 1: of bytes; its length); what it holds is M k. -/
def zI (z : Int) : Int32 := Int32.ofInt z
theorem zI_add (a b : Int) : zI a + zI b = zI (a + b) := (Int32.ofInt_add a b).symm
theorem zI_sub (a b : Int) : zI a - zI b = zI (a - b) := (Int32.ofInt_sub a b).symm
theorem zI_mul (a b : Int) : zI a * zI b = zI (a * b) := (Int32.ofInt_mul a b).symm
theorem zI_toInt {a : Int} (h : -2147483648 ≤ a ∧ a ≤ 2147483647) : (zI a).toInt = a := Int32.toInt_ofInt_of_le (by omega) (by omega)
theorem zI_of (x : Int32) : x = zI x.toInt := (Int32.ofInt_toInt x).symm
theorem zI_rg (x : Int32) : -2147483648 ≤ x.toInt ∧ x.toInt ≤ 2147483647 := by
  have h1 := Int32.le_toInt x
  have h2 := Int32.toInt_lt x
  omega
theorem zI_le {a b : Int} (h : (-2147483648 ≤ a ∧ a ≤ 2147483647) ∧ -2147483648 ≤ b ∧ b ≤ 2147483647) : zI a ≤ zI b ↔ a ≤ b := by
  rw [Int32.le_iff_toInt_le, zI_toInt h.1, zI_toInt h.2]
theorem zI_lt {a b : Int} (h : (-2147483648 ≤ a ∧ a ≤ 2147483647) ∧ -2147483648 ≤ b ∧ b ≤ 2147483647) : zI a < zI b ↔ a < b := by
  rw [Int32.lt_iff_toInt_lt, zI_toInt h.1, zI_toInt h.2]
theorem zI_eq {a b : Int} (h : (-2147483648 ≤ a ∧ a ≤ 2147483647) ∧ -2147483648 ≤ b ∧ b ≤ 2147483647) : zI a = zI b ↔ a = b := by
  rw [← Int32.toInt_inj, zI_toInt h.1, zI_toInt h.2]
theorem zI_0 : zI 0 = 0 := rfl
theorem zI_in {a : Int} {n : Nat} (h : 0 ≤ a ∧ a < n) (hn : n < 2147483648) : vp_in (zI a) n := by
  rw [vp_in_iff, zI_toInt (by omega)]
  exact h
theorem zI_cl {a : Int} {n : Nat} (h : 0 ≤ a ∧ a < n) (hn : n < 2147483648) : (zI a).toNatClampNeg = a.toNat := by
  show (zI a).toInt.toNat = a.toNat
  rw [zI_toInt (by omega)]
theorem zI_long {a : Int} (h : 1 ≤ a ∧ a ≤ 2147483647) : ¬ (zI a).toInt64 = 0 := by
  intro q
  have h1 : (zI a).toInt64.toInt = (0 : Int64).toInt := by rw [q]
  rw [Int32.toInt_toInt64, zI_toInt (by omega)] at h1
  have h2 : (0 : Int64).toInt = 0 := rfl
  omega
def bm (z : Int) : Int := (zI z).toInt
theorem bm_zI (z : Int) : zI (bm z) = zI z := (zI_of (zI z)).symm
theorem bm_rg (z : Int) : -2147483648 ≤ bm z ∧ bm z ≤ 2147483647 := zI_rg (zI z)
theorem bm_of {z : Int} (h : -2147483648 ≤ z ∧ z ≤ 2147483647) : bm z = z := zI_toInt h
abbrev zM : Type := Nat → Int → Int
def zU (M : zM) (k : Nat) (i v : Int) : zM := fun k' i' => if k' = k ∧ i' = i then v else M k' i'
theorem zU_k {M : zM} {k j : Nat} {i v : Int} (h : j ≠ k) : zU M k i v j = M j := by
  funext q
  simp [zU, h]
theorem zU_s {M : zM} {k : Nat} {i v : Int} : zU M k i v k i = v := by simp [zU]
theorem zU_n {M : zM} {k : Nat} {i j v : Int} (h : j ≠ i) : zU M k i v k j = M k j := by simp [zU, h]
/-- a field: a reference to a cell of the row, an int, a long that stays -/
abbrev zF : Type := Nat ⊕ (Unit ⊕ Int64)
abbrev zC : Type := (Nat × List zF) ⊕ (Nat × Nat)
def zFv (ad : Nat → Nat) (M : zM) (k j : Nat) (f : zF) : Value := match f with
  | .inl c => .ref (ad c)
  | .inr (.inl _) => .int (zI (M k j))
  | .inr (.inr x) => .long x
def zFs (ad : Nat → Nat) (M : zM) (k : Nat) : Nat → List zF → List Value
  | _, [] => []
  | j, f :: t => zFv ad M k j f :: zFs ad M k (j + 1) t
def zE (ad : Nat → Nat) (cI : Nat → ClassId) (M : zM) (k : Nat) (d : zC) : va_E := match d with
  | .inl o => .inr (o.1, zFs ad M k 0 o.2)
  | .inr n => .inl (cI n.1, n.2, .inl (fun q => zI (M k (q : Int))))
def zW (ad : Nat → Nat) (cI : Nat → ClassId) (M : zM) : Nat → List zC → va_W
  | _, [] => []
  | k, d :: t => (ad k, zE ad cI M k d) :: zW ad cI M (k + 1) t
theorem zFs_at (ad : Nat → Nat) (M : zM) (k : Nat) : ∀ (fs : List zF) (j0 j : Nat), (zFs ad M k j0 fs)[j]? = (fs[j]?).map (zFv ad M k (j0 + j))
  | [], j0, j => by simp [zFs]
  | f :: t, j0, 0 => by simp [zFs]
  | f :: t, j0, j + 1 => by
    simp only [zFs, List.getElem?_cons_succ]
    rw [zFs_at ad M k t (j0 + 1) j, show j0 + 1 + j = j0 + (j + 1) by omega]
theorem zFs_len (ad : Nat → Nat) (M : zM) (k : Nat) : ∀ (fs : List zF) (j0 : Nat), (zFs ad M k j0 fs).length = fs.length
  | [], _ => rfl
  | f :: t, j0 => by simp [zFs, zFs_len ad M k t (j0 + 1)]
theorem zW_at (ad : Nat → Nat) (cI : Nat → ClassId) (M : zM) : ∀ (L : List zC) (k0 k : Nat), (zW ad cI M k0 L)[k]? = (L[k]?).map (fun d => (ad (k0 + k), zE ad cI M (k0 + k) d))
  | [], k0, k => by simp [zW]
  | d :: t, k0, 0 => by simp [zW]
  | d :: t, k0, k + 1 => by
    simp only [zW, List.getElem?_cons_succ]
    rw [zW_at ad cI M t (k0 + 1) k, show k0 + 1 + k = k0 + (k + 1) by omega]
theorem zW_is {ad : Nat → Nat} {cI : Nat → ClassId} {M : zM} {L : List zC} {k : Nat} {d : zC} (h : L[k]? = some d) : (zW ad cI M 0 L)[k]? = some (ad k, zE ad cI M k d) := by
  rw [zW_at, h]; simp
theorem zW_put {ad : Nat → Nat} {cI : Nat → ClassId} {M M' : zM} {L : List zC} {k : Nat} {d : zC} {E : va_E} (h : L[k]? = some d) (he : zE ad cI M' k d = E) (ho : ∀ j, j ≠ k → M' j = M j) : (zW ad cI M 0 L).set k (ad k, E) = zW ad cI M' 0 L := by
  apply List.ext_getElem?
  intro j
  rw [List.getElem?_set]
  by_cases hj : k = j
  · subst hj
    have hl : k < (zW ad cI M 0 L).length := by
      rcases Nat.lt_or_ge k (zW ad cI M 0 L).length with q | q
      · exact q
      · have := List.getElem?_eq_none q
        rw [zW_is h] at this
        cases this
    rw [if_pos rfl, if_pos hl, zW_is h, he]
  · rw [if_neg hj, zW_at, zW_at]
    cases hd : L[j]? with
    | none => rfl
    | some d9 =>
      simp only [Option.map_some, Nat.zero_add]
      have e : M' j = M j := ho j (fun z => hj z.symm)
      congr 2
      cases d9 with
      | inl o =>
        simp only [zE]
        congr 2
        apply List.ext_getElem?
        intro i
        rw [zFs_at, zFs_at]
        congr 1
        funext f
        cases f with
        | inl c => rfl
        | inr f =>
          cases f with
          | inl u => simp only [zFv, e]
          | inr x => rfl
      | inr n => simp only [zE, e]
def zA (ad : Nat → Nat) (L : List zC) : Nat → Prop := fun q => ∃ k, k < L.length ∧ q = ad k
/-- the row L stands in the heap H and holds M -/
def zX (D : va_G) (L : List zC) (ad : Nat → Nat) (cI : Nat → ClassId) (M : zM) (H : Heap) : Prop :=
  va_P D zCl (zW ad cI M 0 L) H ∧ va_D (zA ad L) (zW ad cI M 0 L) ∧ ∀ k i, -2147483648 ≤ M k i ∧ M k i ≤ 2147483647
/-- the tables: the classes; the words that the start gave -/
def zK (D : va_G) (cI : Nat → ClassId) (U : State) : Prop := va_K D zCl [(cI 0, .int), (cI 1, .byte), (cI 2, .long)] U ∧ ∃ (a0 : Array Value) (s0 : State), s0.WarmedH U.vm ∧ ∀ w ∈ lw_tbl, w.before a0 s0 = true
def zP (D : va_G) (L : List zC) (ad : Nat → Nat) (cI : Nat → ClassId) (M : zM) (U : State) : Prop := zX D L ad cI M U.heap ∧ zK D cI U
theorem zK.warm {D : va_G} {cI : Nat → ClassId} {u U : State} (hW : u.WarmedH U.vm) (h : zK D cI u) : zK D cI U := by
  obtain ⟨h1, a0, s0, h2, h3⟩ := h
  exact ⟨va_K.moved hW.alike h1, a0, s0, State.WarmedH.trans h2 hW, h3⟩
theorem zK.w {D : va_G} {cI : Nat → ClassId} {U : State} (h : zK D cI U) {w : Cond} {args : Array Value} (hm : w ∈ lw_tbl) (hg : goodWord w = true) : w.before args U = true := by
  obtain ⟨-, a0, s0, h2, h3⟩ := h
  exact word_at h2 (good_of_word hg) (h3 _ hm)
theorem zK.nf {D : va_G} {cI : Nat → ClassId} {U : State} (h : zK D cI U) {a : String} {i : Nat} {b n d o : String} {args : Array Value} (hm : Cond.fieldLinkNest a i b n d o ∈ lw_tbl) : (Cond.fieldLinkNest a i b n d o).before args U = true := by
  obtain ⟨-, a0, s0, h2, h3⟩ := h
  exact va_Nw.use rfl (va_Nw.warmF h2 (va_Nw.of rfl (h3 _ hm)))
theorem zK.nm {D : va_G} {cI : Nat → ClassId} {U : State} (h : zK D cI U) {a : String} {i : Nat} {y : MethodName} {o : String} {args : Array Value} (hm : Cond.methodLinkNest a i y o ∈ lw_tbl) : (Cond.methodLinkNest a i y o).before args U = true := by
  obtain ⟨-, a0, s0, h2, h3⟩ := h
  exact va_Nw.use rfl (va_Nw.warmM h2 (va_Nw.of rfl (h3 _ hm)))
theorem zW_len (ad : Nat → Nat) (cI : Nat → ClassId) (M : zM) : ∀ (L : List zC) (k : Nat), (zW ad cI M k L).length = L.length
  | [], _ => rfl
  | d :: t, k => by simp [zW, zW_len ad cI M t (k + 1)]
theorem zX.kept {D : va_G} {L : List zC} {ad : Nat → Nat} {cI : Nat → ClassId} {M : zM} {H H1 : Heap} (h : zX D L ad cI M H) (hq : ∀ q : Nat, q < H.size → zA ad L q → H1[q]? = H[q]?) : zX D L ad cI M H1 := by
  refine ⟨fun k x hx => ?_, h.2⟩
  have h1 := h.1 k x hx
  exact h1.kept (hq x.1 h1.lt (h.2.1.2 k x hx))
theorem zX.rg {D : va_G} {L : List zC} {ad : Nat → Nat} {cI : Nat → ClassId} {M : zM} {H : Heap} (h : zX D L ad cI M H) (k : Nat) (i : Int) : -2147483648 ≤ M k i ∧ M k i ≤ 2147483647 := h.2.2 k i
theorem zU_rg {M : zM} (h : ∀ k i, -2147483648 ≤ M k i ∧ M k i ≤ 2147483647) {k : Nat} {i v : Int} (hv : -2147483648 ≤ v ∧ v ≤ 2147483647) : ∀ k' i', -2147483648 ≤ zU M k i v k' i' ∧ zU M k i v k' i' ≤ 2147483647 := by
  intro k' i'
  unfold zU
  split
  · exact hv
  · exact h k' i'
theorem zI_byte {v : Int} (h : -128 ≤ v ∧ v ≤ 127) : vp_nar .byte (zI v) = zI v := by
  rw [vp_nar_byte]
  apply Int32.toInt_inj.mp
  rw [Int8.toInt_toInt32, zI_toInt (by omega)]
  have e : (zI v).toInt8.toInt = (zI v).toInt.bmod (2 ^ 8) := Int32.toInt_toInt8 _
  rw [e, zI_toInt (by omega)]
  exact Int.bmod_eq_of_le (by omega) (by omega)
section ZROWS
variable {p : Program} {l : Launch} {e : Env} {R : Room} {s : State} {m : MethodId} {args : Array Value} {below : List Frame} {meth : Method} {c : Code} {H : Heap} {locs : List Loc} {cells slots : Nat} {Q : State → Prop}
variable {cc : ByteArray} {pc : Nat} {ls : Array Slot} {rest : List Value}
variable {D : va_G} {L : List zC} {ad : Nat → Nat} {cI : Nat → ClassId} {M : zM} {H0 : Heap}
theorem z_const (hx : p.tables.exec = Jvm.exec) (hb : c.code = cc) {n : Int} (hdg : decode cc pc = .ok (.iconst n, 1))
    (k : W p l e R s m args below meth c H locs cells slots Q (F0 m (pc + 1) ls (.int (zI n) :: rest))) : W p l e R s m args below meth c H locs cells slots Q (F0 m pc ls rest) := lv_iconst hx hb hdg rfl k
theorem z_bipush (hx : p.tables.exec = Jvm.exec) (hb : c.code = cc) {n : Int} (hdg : decode cc pc = .ok (.bipush n, 2)) (hv : (Int8.ofInt n).toInt32 = zI n)
    (k : W p l e R s m args below meth c H locs cells slots Q (F0 m (pc + 2) ls (.int (zI n) :: rest))) : W p l e R s m args below meth c H locs cells slots Q (F0 m pc ls rest) := lv_bipush hx hb hdg hv k
theorem z_sipush (hx : p.tables.exec = Jvm.exec) (hb : c.code = cc) {n : Int} (hdg : decode cc pc = .ok (.sipush n, 3)) (hv : (Int16.ofInt n).toInt32 = zI n)
    (k : W p l e R s m args below meth c H locs cells slots Q (F0 m (pc + 3) ls (.int (zI n) :: rest))) : W p l e R s m args below meth c H locs cells slots Q (F0 m pc ls rest) := lv_sipush hx hb hdg hv k
theorem z_raw {x : Int32} (k : W p l e R s m args below meth c H locs cells slots Q (F0 m pc ls (.int (zI x.toInt) :: rest))) : W p l e R s m args below meth c H locs cells slots Q (F0 m pc ls (.int x :: rest)) := by
  rw [← zI_of] at k
  exact k
theorem z_ldc (hx : p.tables.exec = Jvm.exec) (hb : c.code = cc) {own : String} {index : Nat} {n : Int} (hown : s.vm.findClass own = some m.cls) (hK : zK D cI s) (hconst : Jvm.Cond.constant own index (zI n) ∈ lw_tbl) (hdg : decode cc pc = .ok (.ldc index, 2))
    (k : W p l e R s m args below meth c H locs cells slots Q (F0 m (pc + 2) ls (.int (zI n) :: rest))) : W p l e R s m args below meth c H locs cells slots Q (F0 m pc ls rest) := lv_ldc hx hb hown (hK.w hconst rfl) hdg k
theorem z_ldc2 (hx : p.tables.exec = Jvm.exec) (hb : c.code = cc) {own : String} {index : Nat} {v : Int64} (hown : s.vm.findClass own = some m.cls) (hK : zK D cI s) (hconst : Jvm.Cond.constantLong own index v ∈ lw_tbl) (hdg : decode cc pc = .ok (.ldc2_w index, 3))
    (k : W p l e R s m args below meth c H locs cells slots Q (F0 m (pc + 3) ls (.long v :: rest))) : W p l e R s m args below meth c H locs cells slots Q (F0 m pc ls rest) := lv_ldc2 hx hb hown (hK.w hconst rfl) hdg k
theorem z_iadd (hx : p.tables.exec = Jvm.exec) (hb : c.code = cc) {a b : Int} (hdg : decode cc pc = .ok (.iadd, 1))
    (k : W p l e R s m args below meth c H locs cells slots Q (F0 m (pc + 1) ls (.int (zI (a + b)) :: rest))) : W p l e R s m args below meth c H locs cells slots Q (F0 m pc ls (.int (zI b) :: .int (zI a) :: rest)) := lv_iadd hx hb hdg (by rw [zI_add]; exact k)
theorem z_isub (hx : p.tables.exec = Jvm.exec) (hb : c.code = cc) {a b : Int} (hdg : decode cc pc = .ok (.isub, 1))
    (k : W p l e R s m args below meth c H locs cells slots Q (F0 m (pc + 1) ls (.int (zI (a - b)) :: rest))) : W p l e R s m args below meth c H locs cells slots Q (F0 m pc ls (.int (zI b) :: .int (zI a) :: rest)) := lv_isub hx hb hdg (by rw [zI_sub]; exact k)
theorem z_imul (hx : p.tables.exec = Jvm.exec) (hb : c.code = cc) {a b : Int} (hdg : decode cc pc = .ok (.imul, 1))
    (k : W p l e R s m args below meth c H locs cells slots Q (F0 m (pc + 1) ls (.int (zI (a * b)) :: rest))) : W p l e R s m args below meth c H locs cells slots Q (F0 m pc ls (.int (zI b) :: .int (zI a) :: rest)) := lv_imul hx hb hdg (by rw [zI_mul]; exact k)
theorem z_iinc (hx : p.tables.exec = Jvm.exec) (hb : c.code = cc) {i nL k : Nat} {n a : Int} {lv lv' : List (Nat × Value)} (hdg : decode cc pc = .ok (.iinc i n, 3)) (h : lv_has ls nL lv) (hk : lv[k]? = some (i, .int (zI a))) (hn : i < nL) (hl : (i, Value.int (zI (a + n))) :: lv.filter (fun q => !(q.1 == i) && !(q.1 + 1 == i && q.2.category == 2)) = lv')
    (kk : ∀ ls' : Array Slot, lv_has ls' nL lv' → W p l e R s m args below meth c H locs cells slots Q (F0 m (pc + 3) ls' rest)) : W p l e R s m args below meth c H locs cells slots Q (F0 m pc ls rest) :=
  lv_iinc (v := zI (a + n)) hx hb hdg h hk (zI_add a n) hn hl kk
theorem z_icmp_ge (hx : p.tables.exec = Jvm.exec) (hb : c.code = cc) {a b : Int} {off : Int} {tgt : Nat} (hdg : decode cc pc = .ok (.if_icmp .ge off, 3)) (ht : (pc : Int) + off = (tgt : Int)) (hr : (-2147483648 ≤ a ∧ a ≤ 2147483647) ∧ -2147483648 ≤ b ∧ b ≤ 2147483647)
    (kt : b ≤ a → W p l e R s m args below meth c H locs cells slots Q (F0 m tgt ls rest)) (kf : a < b → W p l e R s m args below meth c H locs cells slots Q (F0 m (pc + 3) ls rest)) : W p l e R s m args below meth c H locs cells slots Q (F0 m pc ls (.int (zI b) :: .int (zI a) :: rest)) :=
  lv_icmp_ge hx hb hdg ht (fun h => kt ((zI_le ⟨hr.2, hr.1⟩).mp h)) (fun h => kf (Int.not_le.mp fun q => h ((zI_le ⟨hr.2, hr.1⟩).mpr q)))
theorem z_icmp_lt (hx : p.tables.exec = Jvm.exec) (hb : c.code = cc) {a b : Int} {off : Int} {tgt : Nat} (hdg : decode cc pc = .ok (.if_icmp .lt off, 3)) (ht : (pc : Int) + off = (tgt : Int)) (hr : (-2147483648 ≤ a ∧ a ≤ 2147483647) ∧ -2147483648 ≤ b ∧ b ≤ 2147483647)
    (kt : a < b → W p l e R s m args below meth c H locs cells slots Q (F0 m tgt ls rest)) (kf : b ≤ a → W p l e R s m args below meth c H locs cells slots Q (F0 m (pc + 3) ls rest)) : W p l e R s m args below meth c H locs cells slots Q (F0 m pc ls (.int (zI b) :: .int (zI a) :: rest)) :=
  lv_icmp_lt hx hb hdg ht (fun h => kt ((zI_lt hr).mp h)) (fun h => kf (Int.not_lt.mp fun q => h ((zI_lt hr).mpr q)))
theorem z_icmp_gt (hx : p.tables.exec = Jvm.exec) (hb : c.code = cc) {a b : Int} {off : Int} {tgt : Nat} (hdg : decode cc pc = .ok (.if_icmp .gt off, 3)) (ht : (pc : Int) + off = (tgt : Int)) (hr : (-2147483648 ≤ a ∧ a ≤ 2147483647) ∧ -2147483648 ≤ b ∧ b ≤ 2147483647)
    (kt : b < a → W p l e R s m args below meth c H locs cells slots Q (F0 m tgt ls rest)) (kf : a ≤ b → W p l e R s m args below meth c H locs cells slots Q (F0 m (pc + 3) ls rest)) : W p l e R s m args below meth c H locs cells slots Q (F0 m pc ls (.int (zI b) :: .int (zI a) :: rest)) :=
  lv_icmp_gt hx hb hdg ht (fun h => kt ((zI_lt ⟨hr.2, hr.1⟩).mp h)) (fun h => kf (Int.not_lt.mp fun q => h ((zI_lt ⟨hr.2, hr.1⟩).mpr q)))
theorem z_icmp_le (hx : p.tables.exec = Jvm.exec) (hb : c.code = cc) {a b : Int} {off : Int} {tgt : Nat} (hdg : decode cc pc = .ok (.if_icmp .le off, 3)) (ht : (pc : Int) + off = (tgt : Int)) (hr : (-2147483648 ≤ a ∧ a ≤ 2147483647) ∧ -2147483648 ≤ b ∧ b ≤ 2147483647)
    (kt : a ≤ b → W p l e R s m args below meth c H locs cells slots Q (F0 m tgt ls rest)) (kf : b < a → W p l e R s m args below meth c H locs cells slots Q (F0 m (pc + 3) ls rest)) : W p l e R s m args below meth c H locs cells slots Q (F0 m pc ls (.int (zI b) :: .int (zI a) :: rest)) :=
  lv_icmp_le hx hb hdg ht (fun h => kt ((zI_le hr).mp h)) (fun h => kf (Int.not_le.mp fun q => h ((zI_le hr).mpr q)))
theorem z_icmp_eq (hx : p.tables.exec = Jvm.exec) (hb : c.code = cc) {a b : Int} {off : Int} {tgt : Nat} (hdg : decode cc pc = .ok (.if_icmp .eq off, 3)) (ht : (pc : Int) + off = (tgt : Int)) (hr : (-2147483648 ≤ a ∧ a ≤ 2147483647) ∧ -2147483648 ≤ b ∧ b ≤ 2147483647)
    (kt : a = b → W p l e R s m args below meth c H locs cells slots Q (F0 m tgt ls rest)) (kf : ¬ a = b → W p l e R s m args below meth c H locs cells slots Q (F0 m (pc + 3) ls rest)) : W p l e R s m args below meth c H locs cells slots Q (F0 m pc ls (.int (zI b) :: .int (zI a) :: rest)) :=
  lv_icmp_eq hx hb hdg ht (fun h => kt ((zI_eq hr).mp h)) (fun h => kf (fun q => h ((zI_eq hr).mpr q)))
theorem z_icmp_ne (hx : p.tables.exec = Jvm.exec) (hb : c.code = cc) {a b : Int} {off : Int} {tgt : Nat} (hdg : decode cc pc = .ok (.if_icmp .ne off, 3)) (ht : (pc : Int) + off = (tgt : Int)) (hr : (-2147483648 ≤ a ∧ a ≤ 2147483647) ∧ -2147483648 ≤ b ∧ b ≤ 2147483647)
    (kt : ¬ a = b → W p l e R s m args below meth c H locs cells slots Q (F0 m tgt ls rest)) (kf : a = b → W p l e R s m args below meth c H locs cells slots Q (F0 m (pc + 3) ls rest)) : W p l e R s m args below meth c H locs cells slots Q (F0 m pc ls (.int (zI b) :: .int (zI a) :: rest)) :=
  lv_icmp_ne hx hb hdg ht (fun h => kt (fun q => h ((zI_eq hr).mpr q))) (fun h => kf ((zI_eq hr).mp h))
theorem z_if_eq (hx : p.tables.exec = Jvm.exec) (hb : c.code = cc) {a : Int} {off : Int} {tgt : Nat} (hdg : decode cc pc = .ok (.ifCond .eq off, 3)) (ht : (pc : Int) + off = (tgt : Int)) (hr : -2147483648 ≤ a ∧ a ≤ 2147483647)
    (kt : a = 0 → W p l e R s m args below meth c H locs cells slots Q (F0 m tgt ls rest)) (kf : ¬ a = 0 → W p l e R s m args below meth c H locs cells slots Q (F0 m (pc + 3) ls rest)) : W p l e R s m args below meth c H locs cells slots Q (F0 m pc ls (.int (zI a) :: rest)) :=
  lv_if_eq hx hb hdg ht (fun h => kt ((zI_eq ⟨hr, by decide⟩).mp h)) (fun h => kf (fun q => h ((zI_eq ⟨hr, by decide⟩).mpr q)))
theorem z_if_ne (hx : p.tables.exec = Jvm.exec) (hb : c.code = cc) {a : Int} {off : Int} {tgt : Nat} (hdg : decode cc pc = .ok (.ifCond .ne off, 3)) (ht : (pc : Int) + off = (tgt : Int)) (hr : -2147483648 ≤ a ∧ a ≤ 2147483647)
    (kt : ¬ a = 0 → W p l e R s m args below meth c H locs cells slots Q (F0 m tgt ls rest)) (kf : a = 0 → W p l e R s m args below meth c H locs cells slots Q (F0 m (pc + 3) ls rest)) : W p l e R s m args below meth c H locs cells slots Q (F0 m pc ls (.int (zI a) :: rest)) :=
  lv_if_ne hx hb hdg ht (fun h => kt (fun q => h ((zI_eq (b := 0) ⟨hr, by decide⟩).mpr q))) (fun h => kf ((zI_eq (b := 0) ⟨hr, by decide⟩).mp h))
theorem z_if_le (hx : p.tables.exec = Jvm.exec) (hb : c.code = cc) {a : Int} {off : Int} {tgt : Nat} (hdg : decode cc pc = .ok (.ifCond .le off, 3)) (ht : (pc : Int) + off = (tgt : Int)) (hr : -2147483648 ≤ a ∧ a ≤ 2147483647)
    (kt : a ≤ 0 → W p l e R s m args below meth c H locs cells slots Q (F0 m tgt ls rest)) (kf : 0 < a → W p l e R s m args below meth c H locs cells slots Q (F0 m (pc + 3) ls rest)) : W p l e R s m args below meth c H locs cells slots Q (F0 m pc ls (.int (zI a) :: rest)) :=
  lv_if_le hx hb hdg ht (fun h => kt ((zI_le (b := 0) ⟨hr, by decide⟩).mp h)) (fun h => kf (Int.not_le.mp fun q => h ((zI_le (b := 0) ⟨hr, by decide⟩).mpr q)))
theorem z_if_lt (hx : p.tables.exec = Jvm.exec) (hb : c.code = cc) {a : Int} {off : Int} {tgt : Nat} (hdg : decode cc pc = .ok (.ifCond .lt off, 3)) (ht : (pc : Int) + off = (tgt : Int)) (hr : -2147483648 ≤ a ∧ a ≤ 2147483647)
    (kt : a < 0 → W p l e R s m args below meth c H locs cells slots Q (F0 m tgt ls rest)) (kf : 0 ≤ a → W p l e R s m args below meth c H locs cells slots Q (F0 m (pc + 3) ls rest)) : W p l e R s m args below meth c H locs cells slots Q (F0 m pc ls (.int (zI a) :: rest)) :=
  lv_if_lt hx hb hdg ht (fun h => kt ((zI_lt (b := 0) ⟨hr, by decide⟩).mp h)) (fun h => kf (Int.not_lt.mp fun q => h ((zI_lt (b := 0) ⟨hr, by decide⟩).mpr q)))
theorem z_if_ge (hx : p.tables.exec = Jvm.exec) (hb : c.code = cc) {a : Int} {off : Int} {tgt : Nat} (hdg : decode cc pc = .ok (.ifCond .ge off, 3)) (ht : (pc : Int) + off = (tgt : Int)) (hr : -2147483648 ≤ a ∧ a ≤ 2147483647)
    (kt : 0 ≤ a → W p l e R s m args below meth c H locs cells slots Q (F0 m tgt ls rest)) (kf : a < 0 → W p l e R s m args below meth c H locs cells slots Q (F0 m (pc + 3) ls rest)) : W p l e R s m args below meth c H locs cells slots Q (F0 m pc ls (.int (zI a) :: rest)) :=
  lv_if_ge hx hb hdg ht (fun h => kt ((zI_le (a := 0) ⟨by decide, hr⟩).mp h)) (fun h => kf (Int.not_le.mp fun q => h ((zI_le (a := 0) ⟨by decide, hr⟩).mpr q)))
theorem z_if_gt (hx : p.tables.exec = Jvm.exec) (hb : c.code = cc) {a : Int} {off : Int} {tgt : Nat} (hdg : decode cc pc = .ok (.ifCond .gt off, 3)) (ht : (pc : Int) + off = (tgt : Int)) (hr : -2147483648 ≤ a ∧ a ≤ 2147483647)
    (kt : 0 < a → W p l e R s m args below meth c H locs cells slots Q (F0 m tgt ls rest)) (kf : a ≤ 0 → W p l e R s m args below meth c H locs cells slots Q (F0 m (pc + 3) ls rest)) : W p l e R s m args below meth c H locs cells slots Q (F0 m pc ls (.int (zI a) :: rest)) :=
  lv_if_gt hx hb hdg ht (fun h => kt ((zI_lt (a := 0) ⟨by decide, hr⟩).mp h)) (fun h => kf (Int.not_lt.mp fun q => h ((zI_lt (a := 0) ⟨by decide, hr⟩).mpr q)))
theorem z_iald (hx : p.tables.exec = Jvm.exec) (hb : c.code = cc) (hK : zK D cI s) (hX : zX D L ad cI M H) (k : Nat) {n : Nat} (hk : L[k]? = some (.inr (0, n))) {i v : Int} (hi : 0 ≤ i ∧ i < n) (hn : n < 2147483648) (hv : M k i = v) (hdg : decode cc pc = .ok (.iaload, 1))
    (kk : -2147483648 ≤ v ∧ v ≤ 2147483647 → W p l e R s m args below meth c H locs cells slots Q (F0 m (pc + 1) ls (.int (zI v) :: rest))) : W p l e R s m args below meth c H locs cells slots Q (F0 m pc ls (.int (zI i) :: .ref (ad k) :: rest)) := by
  subst hv
  refine va_iald hx hb hK.1 hX.1 k 0 (zW_is hk) rfl (zI_in hi hn) hdg ?_
  rw [zI_cl hi hn, show ((i.toNat : Nat) : Int) = i from Int.toNat_of_nonneg hi.1]
  exact kk (hX.rg k i)
theorem z_bald (hx : p.tables.exec = Jvm.exec) (hb : c.code = cc) (hK : zK D cI s) (hX : zX D L ad cI M H) (k : Nat) {n : Nat} (hk : L[k]? = some (.inr (1, n))) {i v : Int} (hi : 0 ≤ i ∧ i < n) (hn : n < 2147483648) (hv : M k i = v) (hdg : decode cc pc = .ok (.baload, 1))
    (kk : -2147483648 ≤ v ∧ v ≤ 2147483647 → W p l e R s m args below meth c H locs cells slots Q (F0 m (pc + 1) ls (.int (zI v) :: rest))) : W p l e R s m args below meth c H locs cells slots Q (F0 m pc ls (.int (zI i) :: .ref (ad k) :: rest)) := by
  subst hv
  refine va_bald hx hb hK.1 hX.1 k 1 (zW_is hk) rfl (zI_in hi hn) hdg ?_
  rw [zI_cl hi hn, show ((i.toNat : Nat) : Int) = i from Int.toNat_of_nonneg hi.1]
  exact kk (hX.rg k i)
theorem z_iast (hx : p.tables.exec = Jvm.exec) (hb : c.code = cc) (hK : zK D cI s) (hX : zX D L ad cI M H) (hS : va_S (zA ad L) H0 H locs) (k : Nat) {n : Nat} (hk : L[k]? = some (.inr (0, n))) {i v : Int} (hi : 0 ≤ i ∧ i < n) (hn : n < 2147483648) (hv : -2147483648 ≤ v ∧ v ≤ 2147483647) (hdg : decode cc pc = .ok (.iastore, 1))
    (kk : ∀ (H1 : Heap) (locs1 : List Loc), zX D L ad cI (zU M k i v) H1 → va_S (zA ad L) H0 H1 locs1 → W p l e R s m args below meth c H1 locs1 cells slots Q (F0 m (pc + 1) ls rest)) : W p l e R s m args below meth c H locs cells slots Q (F0 m pc ls (.int (zI v) :: .int (zI i) :: .ref (ad k) :: rest)) := by
  refine va_iast hx hb hK.1 hX.1 hX.2.1 hS k 0 (zW_is hk) rfl (zI_in hi hn) hdg (fun H1 locs1 hP hD hS1 => ?_)
  have e : (zW ad cI M 0 L).set k (ad k, .inl (cI 0, n, .inl (upd (fun q => zI (M k (q : Int))) (zI i).toNatClampNeg (zI v)))) = zW ad cI (zU M k i v) 0 L := by
    refine zW_put hk ?_ (fun j hj => zU_k hj)
    simp only [zE]
    congr 4
    funext q
    rw [zI_cl hi hn]
    unfold upd
    by_cases hq : q = i.toNat
    · rw [if_pos hq, show (q : Int) = i by omega, zU_s]
    · rw [if_neg hq, zU_n (by omega)]
  rw [e] at hP hD
  exact kk H1 locs1 ⟨hP, hD, zU_rg hX.2.2 hv⟩ hS1
theorem z_bast (hx : p.tables.exec = Jvm.exec) (hb : c.code = cc) (hK : zK D cI s) (hX : zX D L ad cI M H) (hS : va_S (zA ad L) H0 H locs) (k : Nat) {n : Nat} (hk : L[k]? = some (.inr (1, n))) {i v : Int} (hi : 0 ≤ i ∧ i < n) (hn : n < 2147483648) (hv : -128 ≤ v ∧ v ≤ 127) (hdg : decode cc pc = .ok (.bastore, 1))
    (kk : ∀ (H1 : Heap) (locs1 : List Loc), zX D L ad cI (zU M k i v) H1 → va_S (zA ad L) H0 H1 locs1 → W p l e R s m args below meth c H1 locs1 cells slots Q (F0 m (pc + 1) ls rest)) : W p l e R s m args below meth c H locs cells slots Q (F0 m pc ls (.int (zI v) :: .int (zI i) :: .ref (ad k) :: rest)) := by
  refine va_bast hx hb hK.1 hX.1 hX.2.1 hS k 1 (zW_is hk) rfl (zI_in hi hn) hdg (fun H1 locs1 hP hD hS1 => ?_)
  rw [zI_byte hv] at hP hD
  have e : (zW ad cI M 0 L).set k (ad k, .inl (cI 1, n, .inl (upd (fun q => zI (M k (q : Int))) (zI i).toNatClampNeg (zI v)))) = zW ad cI (zU M k i v) 0 L := by
    refine zW_put hk ?_ (fun j hj => zU_k hj)
    simp only [zE]
    congr 4
    funext q
    rw [zI_cl hi hn]
    unfold upd
    by_cases hq : q = i.toNat
    · rw [if_pos hq, show (q : Int) = i by omega, zU_s]
    · rw [if_neg hq, zU_n (by omega)]
  rw [e] at hP hD
  exact kk H1 locs1 ⟨hP, hD, zU_rg hX.2.2 (by omega)⟩ hS1
theorem z_iastw (hx : p.tables.exec = Jvm.exec) (hb : c.code = cc) (hK : zK D cI s) (hX : zX D L ad cI M H) (hS : va_S (zA ad L) H0 H locs) (k : Nat) {n : Nat} (hk : L[k]? = some (.inr (0, n))) {i v : Int} (hi : 0 ≤ i ∧ i < n) (hn : n < 2147483648) (hdg : decode cc pc = .ok (.iastore, 1))
    (kk : ∀ (H1 : Heap) (locs1 : List Loc), zX D L ad cI (zU M k i (bm v)) H1 → va_S (zA ad L) H0 H1 locs1 → W p l e R s m args below meth c H1 locs1 cells slots Q (F0 m (pc + 1) ls rest)) : W p l e R s m args below meth c H locs cells slots Q (F0 m pc ls (.int (zI v) :: .int (zI i) :: .ref (ad k) :: rest)) := by
  have h := z_iast (p := p) (l := l) (e := e) (R := R) (m := m) (below := below) (meth := meth) (cells := cells) (slots := slots) (Q := Q) (ls := ls) (rest := rest) (v := bm v) hx hb hK hX hS k hk hi hn (bm_rg v) hdg kk
  rw [bm_zI] at h
  exact h
theorem z_alen (hx : p.tables.exec = Jvm.exec) (hb : c.code = cc) (hK : zK D cI s) (hX : zX D L ad cI M H) (k : Nat) {n : Nat} (hk : L[k]? = some (.inr (0, n))) (hdg : decode cc pc = .ok (.arraylength, 1))
    (kk : W p l e R s m args below meth c H locs cells slots Q (F0 m (pc + 1) ls (.int (zI (n : Int)) :: rest))) : W p l e R s m args below meth c H locs cells slots Q (F0 m pc ls (.ref (ad k) :: rest)) :=
  va_alen hx hb hK.1 hX.1 k 0 (zW_is hk) rfl (v := zI (n : Int)) (by rfl) hdg kk
/-- a field that is read: in the class itself; 'N': in another class of the nest -/
theorem z_getr (hx : p.tables.exec = Jvm.exec) (hb : c.code = cc) {own ref C : String} {T : u_T} {N ci index : Nat} (hin : ∀ w ∈ u_ws C T N, w ∈ lw_tbl ∧ goodWord w = true) (hown : s.vm.findClass own = some m.cls) (hK : zK D cI s) (hX : zX D L ad cI M H) (k : Nat) {fs : List zF} (hk : L[k]? = some (.inl (ci, fs))) (hc : zCl[ci]? = some (C, T, N)) (j : Nat) (hj : j < N) (hlink : Cond.fieldLink own index ref (T j).2.1 (T j).2.2.1 ∈ lw_tbl) (hsame : ∀ x, s.fieldFound? (T j).1 (T j).2.1 (T j).2.2.1 = some x → s.fieldFound? ref (T j).2.1 (T j).2.2.1 = some x) (q : Nat) (hf : fs[j]? = some (.inl q)) (hdg : decode cc pc = .ok (.getfield index, 3))
    (kk : W p l e R s m args below meth c H locs cells slots Q (F0 m (pc + 3) ls (.ref (ad q) :: rest))) : W p l e R s m args below meth c H locs cells slots Q (F0 m pc ls (.ref (ad k) :: rest)) :=
  va_get hx hb (fun w hw => hK.w (hin w hw).1 (hin w hw).2) (fun w hw => hw) hown hK.1 hX.1 k (zW_is hk) hc j hj (hK.w hlink rfl) hsame (v := .ref (ad q)) (by rw [zFs_at, hf]; rfl) hdg kk
theorem z_getrN (hx : p.tables.exec = Jvm.exec) (hb : c.code = cc) {own ref C host : String} {T : u_T} {N ci index : Nat} (hin : ∀ w ∈ u_ws C T N, w ∈ lw_tbl ∧ goodWord w = true) (hown : s.vm.findClass own = some m.cls) (hK : zK D cI s) (hX : zX D L ad cI M H) (k : Nat) {fs : List zF} (hk : L[k]? = some (.inl (ci, fs))) (hc : zCl[ci]? = some (C, T, N)) (j : Nat) (hj : j < N) (hlink : Cond.fieldLinkNest own index ref (T j).2.1 (T j).2.2.1 host ∈ lw_tbl) (hsame : ∀ x, s.fieldFound? (T j).1 (T j).2.1 (T j).2.2.1 = some x → s.fieldFound? ref (T j).2.1 (T j).2.2.1 = some x) (q : Nat) (hf : fs[j]? = some (.inl q)) (hdg : decode cc pc = .ok (.getfield index, 3))
    (kk : W p l e R s m args below meth c H locs cells slots Q (F0 m (pc + 3) ls (.ref (ad q) :: rest))) : W p l e R s m args below meth c H locs cells slots Q (F0 m pc ls (.ref (ad k) :: rest)) :=
  va_getN hx hb (fun w hw => hK.w (hin w hw).1 (hin w hw).2) (fun w hw => hw) hown hK.1 hX.1 k (zW_is hk) hc j hj (hK.nf hlink) hsame (v := .ref (ad q)) (by rw [zFs_at, hf]; rfl) hdg kk
theorem z_geti (hx : p.tables.exec = Jvm.exec) (hb : c.code = cc) {own ref C : String} {T : u_T} {N ci index : Nat} (hin : ∀ w ∈ u_ws C T N, w ∈ lw_tbl ∧ goodWord w = true) (hown : s.vm.findClass own = some m.cls) (hK : zK D cI s) (hX : zX D L ad cI M H) (k : Nat) {fs : List zF} (hk : L[k]? = some (.inl (ci, fs))) (hc : zCl[ci]? = some (C, T, N)) (j : Nat) (hj : j < N) (hlink : Cond.fieldLink own index ref (T j).2.1 (T j).2.2.1 ∈ lw_tbl) (hsame : ∀ x, s.fieldFound? (T j).1 (T j).2.1 (T j).2.2.1 = some x → s.fieldFound? ref (T j).2.1 (T j).2.2.1 = some x) (hf : fs[j]? = some (.inr (.inl ()))) {i v : Int} (hi : i = (j : Int)) (hv : M k i = v) (hdg : decode cc pc = .ok (.getfield index, 3))
    (kk : -2147483648 ≤ v ∧ v ≤ 2147483647 → W p l e R s m args below meth c H locs cells slots Q (F0 m (pc + 3) ls (.int (zI v) :: rest))) : W p l e R s m args below meth c H locs cells slots Q (F0 m pc ls (.ref (ad k) :: rest)) := by
  subst hi; subst hv
  exact va_get hx hb (fun w hw => hK.w (hin w hw).1 (hin w hw).2) (fun w hw => hw) hown hK.1 hX.1 k (zW_is hk) hc j hj (hK.w hlink rfl) hsame (v := .int (zI (M k j))) (by rw [zFs_at, hf]; simp [zFv]) hdg (kk (hX.rg k j))
theorem z_getiN (hx : p.tables.exec = Jvm.exec) (hb : c.code = cc) {own ref C host : String} {T : u_T} {N ci index : Nat} (hin : ∀ w ∈ u_ws C T N, w ∈ lw_tbl ∧ goodWord w = true) (hown : s.vm.findClass own = some m.cls) (hK : zK D cI s) (hX : zX D L ad cI M H) (k : Nat) {fs : List zF} (hk : L[k]? = some (.inl (ci, fs))) (hc : zCl[ci]? = some (C, T, N)) (j : Nat) (hj : j < N) (hlink : Cond.fieldLinkNest own index ref (T j).2.1 (T j).2.2.1 host ∈ lw_tbl) (hsame : ∀ x, s.fieldFound? (T j).1 (T j).2.1 (T j).2.2.1 = some x → s.fieldFound? ref (T j).2.1 (T j).2.2.1 = some x) (hf : fs[j]? = some (.inr (.inl ()))) {i v : Int} (hi : i = (j : Int)) (hv : M k i = v) (hdg : decode cc pc = .ok (.getfield index, 3))
    (kk : -2147483648 ≤ v ∧ v ≤ 2147483647 → W p l e R s m args below meth c H locs cells slots Q (F0 m (pc + 3) ls (.int (zI v) :: rest))) : W p l e R s m args below meth c H locs cells slots Q (F0 m pc ls (.ref (ad k) :: rest)) := by
  subst hi; subst hv
  exact va_getN hx hb (fun w hw => hK.w (hin w hw).1 (hin w hw).2) (fun w hw => hw) hown hK.1 hX.1 k (zW_is hk) hc j hj (hK.nf hlink) hsame (v := .int (zI (M k j))) (by rw [zFs_at, hf]; simp [zFv]) hdg (kk (hX.rg k j))
theorem z_getl (hx : p.tables.exec = Jvm.exec) (hb : c.code = cc) {own ref C : String} {T : u_T} {N ci index : Nat} (hin : ∀ w ∈ u_ws C T N, w ∈ lw_tbl ∧ goodWord w = true) (hown : s.vm.findClass own = some m.cls) (hK : zK D cI s) (hX : zX D L ad cI M H) (k : Nat) {fs : List zF} (hk : L[k]? = some (.inl (ci, fs))) (hc : zCl[ci]? = some (C, T, N)) (j : Nat) (hj : j < N) (hlink : Cond.fieldLink own index ref (T j).2.1 (T j).2.2.1 ∈ lw_tbl) (hsame : ∀ x, s.fieldFound? (T j).1 (T j).2.1 (T j).2.2.1 = some x → s.fieldFound? ref (T j).2.1 (T j).2.2.1 = some x) (q : Int64) (hf : fs[j]? = some (.inr (.inr q))) (hdg : decode cc pc = .ok (.getfield index, 3))
    (kk : W p l e R s m args below meth c H locs cells slots Q (F0 m (pc + 3) ls (.long q :: rest))) : W p l e R s m args below meth c H locs cells slots Q (F0 m pc ls (.ref (ad k) :: rest)) :=
  va_get hx hb (fun w hw => hK.w (hin w hw).1 (hin w hw).2) (fun w hw => hw) hown hK.1 hX.1 k (zW_is hk) hc j hj (hK.w hlink rfl) hsame (v := .long q) (by rw [zFs_at, hf]; rfl) hdg kk
theorem zFs_set (ad : Nat → Nat) (M : zM) (k : Nat) {fs : List zF} {j : Nat} (hf : fs[j]? = some (.inr (.inl ()))) (v : Int) : (zFs ad M k 0 fs).set j (.int (zI v)) = zFs ad (zU M k j v) k 0 fs := by
  apply List.ext_getElem?
  intro i
  rw [List.getElem?_set, zFs_at, zFs_at]
  by_cases hj : j = i
  · subst hj
    have hl : j < (zFs ad M k 0 fs).length := by rw [zFs_len]; exact (List.getElem?_eq_some_iff.mp hf).1
    rw [if_pos rfl, if_pos hl, hf]
    simp [zFv, zU]
  · rw [if_neg hj]
    congr 1
    funext f
    cases f with
    | inl c => rfl
    | inr f =>
      cases f with
      | inl u =>
        simp only [zFv, Nat.zero_add]
        rw [zU_n (by omega)]
      | inr x => rfl
theorem z_puti (hx : p.tables.exec = Jvm.exec) (hb : c.code = cc) {own ref C : String} {T : u_T} {N ci index : Nat} (hin : ∀ w ∈ u_ws C T N, w ∈ lw_tbl ∧ goodWord w = true) (ty0 : Nat → FieldType) (hty : ∀ k, k < N → parseFieldDescriptor (T k).2.2.1 = some (ty0 k)) (hnm : ∀ a, a < N → ∀ b, b < N → a ≠ b → (T a).2.1 ≠ (T b).2.1) (hown : s.vm.findClass own = some m.cls) (hK : zK D cI s) (hX : zX D L ad cI M H) (hS : va_S (zA ad L) H0 H locs) (k : Nat) {fs : List zF} (hk : L[k]? = some (.inl (ci, fs))) (hc : zCl[ci]? = some (C, T, N)) (j : Nat) (hj : j < N) (hlink : Cond.fieldLink own index ref (T j).2.1 (T j).2.2.1 ∈ lw_tbl) (hsame : ∀ x, s.fieldFound? (T j).1 (T j).2.1 (T j).2.2.1 = some x → s.fieldFound? ref (T j).2.1 (T j).2.2.1 = some x) (hfin : (T j).2.2.2 = false) (hd : parseFieldDescriptor (T j).2.2.1 = some .int) (hf : fs[j]? = some (.inr (.inl ()))) {i v : Int} (hi : i = (j : Int)) (hv : -2147483648 ≤ v ∧ v ≤ 2147483647) (hdg : decode cc pc = .ok (.putfield index, 3))
    (kk : ∀ (H1 : Heap) (locs1 : List Loc), zX D L ad cI (zU M k i v) H1 → va_S (zA ad L) H0 H1 locs1 → W p l e R s m args below meth c H1 locs1 cells slots Q (F0 m (pc + 3) ls rest)) : W p l e R s m args below meth c H locs cells slots Q (F0 m pc ls (.int (zI v) :: .ref (ad k) :: rest)) := by
  subst hi
  refine va_put hx hb (fun w hw => hK.w (hin w hw).1 (hin w hw).2) (fun w hw => hw) ty0 hty hnm hown hK.1 hX.1 hX.2.1 hS k (zW_is hk) hc j hj (hK.w hlink rfl) hsame hfin hd (v := .int (zI v)) rfl rfl (by rw [zFs_len]; exact (List.getElem?_eq_some_iff.mp hf).1) hdg (fun H1 locs1 hP hD hS1 => ?_)
  have e : (zW ad cI M 0 L).set k (ad k, .inr (ci, (zFs ad M k 0 fs).set j (.int (zI v)))) = zW ad cI (zU M k j v) 0 L := by
    refine zW_put hk ?_ (fun j hj => zU_k hj)
    simp only [zE]
    rw [zFs_set ad M k hf]
  rw [e] at hP hD
  exact kk H1 locs1 ⟨hP, hD, zU_rg hX.2.2 hv⟩ hS1
theorem z_putiN (hx : p.tables.exec = Jvm.exec) (hb : c.code = cc) {own ref C host : String} {T : u_T} {N ci index : Nat} (hin : ∀ w ∈ u_ws C T N, w ∈ lw_tbl ∧ goodWord w = true) (ty0 : Nat → FieldType) (hty : ∀ k, k < N → parseFieldDescriptor (T k).2.2.1 = some (ty0 k)) (hnm : ∀ a, a < N → ∀ b, b < N → a ≠ b → (T a).2.1 ≠ (T b).2.1) (hown : s.vm.findClass own = some m.cls) (hK : zK D cI s) (hX : zX D L ad cI M H) (hS : va_S (zA ad L) H0 H locs) (k : Nat) {fs : List zF} (hk : L[k]? = some (.inl (ci, fs))) (hc : zCl[ci]? = some (C, T, N)) (j : Nat) (hj : j < N) (hlink : Cond.fieldLinkNest own index ref (T j).2.1 (T j).2.2.1 host ∈ lw_tbl) (hsame : ∀ x, s.fieldFound? (T j).1 (T j).2.1 (T j).2.2.1 = some x → s.fieldFound? ref (T j).2.1 (T j).2.2.1 = some x) (hfin : (T j).2.2.2 = false) (hd : parseFieldDescriptor (T j).2.2.1 = some .int) (hf : fs[j]? = some (.inr (.inl ()))) {i v : Int} (hi : i = (j : Int)) (hv : -2147483648 ≤ v ∧ v ≤ 2147483647) (hdg : decode cc pc = .ok (.putfield index, 3))
    (kk : ∀ (H1 : Heap) (locs1 : List Loc), zX D L ad cI (zU M k i v) H1 → va_S (zA ad L) H0 H1 locs1 → W p l e R s m args below meth c H1 locs1 cells slots Q (F0 m (pc + 3) ls rest)) : W p l e R s m args below meth c H locs cells slots Q (F0 m pc ls (.int (zI v) :: .ref (ad k) :: rest)) := by
  subst hi
  refine va_putN hx hb (fun w hw => hK.w (hin w hw).1 (hin w hw).2) (fun w hw => hw) ty0 hty hnm hown hK.1 hX.1 hX.2.1 hS k (zW_is hk) hc j hj (hK.nf hlink) hsame hfin hd (v := .int (zI v)) rfl rfl (by rw [zFs_len]; exact (List.getElem?_eq_some_iff.mp hf).1) hdg (fun H1 locs1 hP hD hS1 => ?_)
  have e : (zW ad cI M 0 L).set k (ad k, .inr (ci, (zFs ad M k 0 fs).set j (.int (zI v)))) = zW ad cI (zU M k j v) 0 L := by
    refine zW_put hk ?_ (fun j hj => zU_k hj)
    simp only [zE]
    rw [zFs_set ad M k hf]
  rw [e] at hP hD
  exact kk H1 locs1 ⟨hP, hD, zU_rg hX.2.2 hv⟩ hS1
theorem z_putiw (hx : p.tables.exec = Jvm.exec) (hb : c.code = cc) {own ref C : String} {T : u_T} {N ci index : Nat} (hin : ∀ w ∈ u_ws C T N, w ∈ lw_tbl ∧ goodWord w = true) (ty0 : Nat → FieldType) (hty : ∀ k, k < N → parseFieldDescriptor (T k).2.2.1 = some (ty0 k)) (hnm : ∀ a, a < N → ∀ b, b < N → a ≠ b → (T a).2.1 ≠ (T b).2.1) (hown : s.vm.findClass own = some m.cls) (hK : zK D cI s) (hX : zX D L ad cI M H) (hS : va_S (zA ad L) H0 H locs) (k : Nat) {fs : List zF} (hk : L[k]? = some (.inl (ci, fs))) (hc : zCl[ci]? = some (C, T, N)) (j : Nat) (hj : j < N) (hlink : Cond.fieldLink own index ref (T j).2.1 (T j).2.2.1 ∈ lw_tbl) (hsame : ∀ x, s.fieldFound? (T j).1 (T j).2.1 (T j).2.2.1 = some x → s.fieldFound? ref (T j).2.1 (T j).2.2.1 = some x) (hfin : (T j).2.2.2 = false) (hd : parseFieldDescriptor (T j).2.2.1 = some .int) (hf : fs[j]? = some (.inr (.inl ()))) {i v : Int} (hi : i = (j : Int)) (hdg : decode cc pc = .ok (.putfield index, 3))
    (kk : ∀ (H1 : Heap) (locs1 : List Loc), zX D L ad cI (zU M k i (bm v)) H1 → va_S (zA ad L) H0 H1 locs1 → W p l e R s m args below meth c H1 locs1 cells slots Q (F0 m (pc + 3) ls rest)) : W p l e R s m args below meth c H locs cells slots Q (F0 m pc ls (.int (zI v) :: .ref (ad k) :: rest)) := by
  have h := z_puti (p := p) (l := l) (e := e) (R := R) (m := m) (below := below) (meth := meth) (cells := cells) (slots := slots) (Q := Q) (ls := ls) (rest := rest) (v := bm v) hx hb hin ty0 hty hnm hown hK hX hS k hk hc j hj hlink hsame hfin hd hf hi (bm_rg v) hdg kk
  rw [bm_zI] at h
  exact h
theorem z_putiwN (hx : p.tables.exec = Jvm.exec) (hb : c.code = cc) {own ref C host : String} {T : u_T} {N ci index : Nat} (hin : ∀ w ∈ u_ws C T N, w ∈ lw_tbl ∧ goodWord w = true) (ty0 : Nat → FieldType) (hty : ∀ k, k < N → parseFieldDescriptor (T k).2.2.1 = some (ty0 k)) (hnm : ∀ a, a < N → ∀ b, b < N → a ≠ b → (T a).2.1 ≠ (T b).2.1) (hown : s.vm.findClass own = some m.cls) (hK : zK D cI s) (hX : zX D L ad cI M H) (hS : va_S (zA ad L) H0 H locs) (k : Nat) {fs : List zF} (hk : L[k]? = some (.inl (ci, fs))) (hc : zCl[ci]? = some (C, T, N)) (j : Nat) (hj : j < N) (hlink : Cond.fieldLinkNest own index ref (T j).2.1 (T j).2.2.1 host ∈ lw_tbl) (hsame : ∀ x, s.fieldFound? (T j).1 (T j).2.1 (T j).2.2.1 = some x → s.fieldFound? ref (T j).2.1 (T j).2.2.1 = some x) (hfin : (T j).2.2.2 = false) (hd : parseFieldDescriptor (T j).2.2.1 = some .int) (hf : fs[j]? = some (.inr (.inl ()))) {i v : Int} (hi : i = (j : Int)) (hdg : decode cc pc = .ok (.putfield index, 3))
    (kk : ∀ (H1 : Heap) (locs1 : List Loc), zX D L ad cI (zU M k i (bm v)) H1 → va_S (zA ad L) H0 H1 locs1 → W p l e R s m args below meth c H1 locs1 cells slots Q (F0 m (pc + 3) ls rest)) : W p l e R s m args below meth c H locs cells slots Q (F0 m pc ls (.int (zI v) :: .ref (ad k) :: rest)) := by
  have h := z_putiN (p := p) (l := l) (e := e) (R := R) (m := m) (below := below) (meth := meth) (cells := cells) (slots := slots) (Q := Q) (ls := ls) (rest := rest) (v := bm v) hx hb hin ty0 hty hnm hown hK hX hS k hk hc j hj hlink hsame hfin hd hf hi (bm_rg v) hdg kk
  rw [bm_zI] at h
  exact h
theorem z_mmax (hx : p.tables.exec = Jvm.exec) (hb : c.code = cc) (hml : c.maxLocals = ls.size) {own : String} {index : Nat} (hown : s.vm.findClass own = some m.cls) (hK : zK D cI s) (hlink : Cond.methodLink own index Lib.Math.max.name ∈ lw_tbl) (hstat : Cond.static Lib.Math.max.name ∈ lw_tbl) (hini : Cond.initialized "java/lang/Math" ∈ lw_tbl) (hcode : Cond.code Lib.Math.max.name Lib.Math.max.code 2 (some .int) ∈ lw_tbl)
    (hframes : 1 ≤ R.frames) (hlocals : (rest.map fun v => v.category).sum + 13 ≤ R.locals) (hc : cells ≤ R.cells) (hs : slots ≤ R.slots) {a b : Int} (hr : (-2147483648 ≤ a ∧ a ≤ 2147483647) ∧ -2147483648 ≤ b ∧ b ≤ 2147483647) (hdg : decode cc pc = .ok (.invokestatic index, 3))
    (kk : W p l e R s m args below meth c H locs cells slots Q (F0 m (pc + 3) ls (.int (zI (max a b)) :: rest))) : W p l e R s m args below meth c H locs cells slots Q (F0 m pc ls (.int (zI b) :: .int (zI a) :: rest)) := by
  refine va_mmax hx hb hml hown (hK.w hlink rfl) (hK.w hstat rfl) (hK.w hini rfl) (hK.w hcode rfl) hframes hlocals hc hs hdg ?_
  have e : (if zI a < zI b then zI b else zI a) = zI (max a b) := by
    by_cases h : a < b
    · rw [if_pos ((zI_lt hr).mpr h), show max a b = b by omega]
    · rw [if_neg (fun q => h ((zI_lt hr).mp q)), show max a b = a by omega]
  rw [e]; exact kk
theorem z_mmin (hx : p.tables.exec = Jvm.exec) (hb : c.code = cc) (hml : c.maxLocals = ls.size) {own : String} {index : Nat} (hown : s.vm.findClass own = some m.cls) (hK : zK D cI s) (hlink : Cond.methodLink own index Lib.Math.min.name ∈ lw_tbl) (hstat : Cond.static Lib.Math.min.name ∈ lw_tbl) (hini : Cond.initialized "java/lang/Math" ∈ lw_tbl) (hcode : Cond.code Lib.Math.min.name Lib.Math.min.code 2 (some .int) ∈ lw_tbl)
    (hframes : 1 ≤ R.frames) (hlocals : (rest.map fun v => v.category).sum + 13 ≤ R.locals) (hc : cells ≤ R.cells) (hs : slots ≤ R.slots) {a b : Int} (hr : (-2147483648 ≤ a ∧ a ≤ 2147483647) ∧ -2147483648 ≤ b ∧ b ≤ 2147483647) (hdg : decode cc pc = .ok (.invokestatic index, 3))
    (kk : W p l e R s m args below meth c H locs cells slots Q (F0 m (pc + 3) ls (.int (zI (min a b)) :: rest))) : W p l e R s m args below meth c H locs cells slots Q (F0 m pc ls (.int (zI b) :: .int (zI a) :: rest)) := by
  refine va_mmin hx hb hml hown (hK.w hlink rfl) (hK.w hstat rfl) (hK.w hini rfl) (hK.w hcode rfl) hframes hlocals hc hs hdg ?_
  have e : (if zI b < zI a then zI b else zI a) = zI (min a b) := by
    by_cases h : b < a
    · rw [if_pos ((zI_lt ⟨hr.2, hr.1⟩).mpr h), show min a b = b by omega]
    · rw [if_neg (fun q => h ((zI_lt ⟨hr.2, hr.1⟩).mp q)), show min a b = a by omega]
  rw [e]; exact kk
end ZROWS
end
section
/-! Own layer: contracts over the row, their beginnings, ends and calls -/
def zQi (D : va_G) (L : List zC) (ad : Nat → Nat) (cI : Nat → ClassId) (post : Int → zM → Prop) : Array Value → State → Outcome → State → Prop :=
  va_Qi (fun (r : Int32) (u : Int × zM) => r = zI u.1 ∧ (-2147483648 ≤ u.1 ∧ u.1 ≤ 2147483647) ∧ post u.1 u.2) (fun u t => zX D L ad cI u.2 t.heap) (zA ad L)
def zQv (D : va_G) (L : List zC) (ad : Nat → Nat) (cI : Nat → ClassId) (post : zM → Prop) : Array Value → State → Outcome → State → Prop :=
  va_Qv (fun (u : zM) => post u) (fun u t => zX D L ad cI u t.heap) (zA ad L)
def zMi (l : Launch) (y : MethodName) (w : Cond) (rm : Room) (D : va_G) (L : List zC) (ad : Nat → Nat) (cI : Nat → ClassId) (M : zM) (av : List Value) (post : Int → zM → Prop) : Prop :=
  Met l y [w] rm (va_Pc av (zP D L ad cI M)) (zQi D L ad cI post) 0 0 (zA ad L)
def zMv (l : Launch) (y : MethodName) (w : Cond) (rm : Room) (D : va_G) (L : List zC) (ad : Nat → Nat) (cI : Nat → ClassId) (M : zM) (av : List Value) (post : zM → Prop) : Prop :=
  Met l y [w] rm (va_Pc av (zP D L ad cI M)) (zQv D L ad cI post) 0 0 (zA ad L)
/-- what stands fast in a body -/
abbrev zB (p : Program) (s : State) (m : MethodId) (meth : Method) (c : Code) (cc : ByteArray) (nL : Nat) (own : String) : Prop :=
  p.tables.exec = Jvm.exec ∧ c.code = cc ∧ c.maxLocals = nL ∧ s.vm.findClass own = some m.cls ∧ meth.locks = false
theorem z_of {l : Launch} {y : MethodName} {ws ws' : List Cond} {rm : Room} {D : va_G} {L : List zC} {ad : Nat → Nat} {cI : Nat → ClassId} {M : zM} {av : List Value} {Qc : Array Value → State → Outcome → State → Prop} {mc ms : Nat} {free : Addr → Prop} {cc : ByteArray} {maxL : Nat} {ret : Option FieldType} {own : String}
    (hy : plainName y.cls = true) (hw : ws = Cond.code y cc maxL ret :: ws') (ho : y.cls = own) (hlen : (lg_sl av).length ≤ maxL)
    (body : ∀ (p : Program) (e : Env) (s : State) (m : MethodId) (below : List Frame) (meth : Method) (c : Code) (ls : Array Slot), zB p s m meth c cc maxL own → meth.sig.returnType = ret → zX D L ad cI M s.heap → zK D cI s → lv_has ls maxL (lv_args 0 av) →
      W p l e rm s m av.toArray below meth c s.heap [] 0 0 (MQ below Qc av.toArray s mc ms free) (F0 m 0 ls [])) : Met l y ws rm (va_Pc av (zP D L ad cI M)) Qc mc ms free := by
  refine Met.ofW (cc := cc) (maxL := maxL) (ret := ret) hy hw ?_
  intro p e s m args below meth c s₁ B hml hv
  obtain ⟨rfl, hX, hK⟩ := hv
  rw [lg_entry_eq]
  refine body p e s m below meth c _ ⟨B.exec, B.bytes, hml, ?_, B.notSynchronized⟩ B.returns hX hK (lv_entry av hlen)
  rw [← ho]
  exact findClass_of_methodNamed B.named
/-- a call's words, out of the tables -/
theorem zK.cB {D : va_G} {cI : Nat → ClassId} {s : State} {args : Array Value} {R rm : Room} {own : String} {index maxL mc ms : Nat} {y : MethodName} {bytes : ByteArray} {ret : Option FieldType} (hK : zK D cI s) (n : Nat) (h1 : Cond.code y bytes maxL ret ∈ lw_tbl) (h2 : Cond.methodLink own index y ∈ lw_tbl) (h3 : Cond.initialized y.cls ∈ lw_tbl)
    (hd : y.cls ≠ "java/lang/invoke/MethodHandle" ∧ y.cls ≠ "java/lang/invoke/VarHandle" ∧ (parseMethodDescriptor y.desc).map (fun d => d.parameters.length) = some n) (hrc : rm.cells = mc) (hrs : rm.slots = ms) (hR : rm.frames + 1 ≤ R.frames ∧ 8 + (maxL + 11) + rm.locals ≤ R.locals) :
    CallB R s args own index y bytes maxL ret [.code y bytes maxL ret] rm mc ms n :=
  callB_of (Ts := [.code y bytes maxL ret]) n (fun w hw => by rw [List.mem_singleton.mp hw]; exact hK.w h1 rfl) (fun w hw => ⟨hw, by rw [List.mem_singleton.mp hw]; exact Or.inl rfl⟩) rfl hrc hrs (hK.w h3 rfl) (hK.w h2 rfl) hd hR
theorem zK.cV {D : va_G} {cI : Nat → ClassId} {s : State} {args : Array Value} {R rm : Room} {own C : String} {index maxL mc ms : Nat} {y : MethodName} {bytes : ByteArray} {ret : Option FieldType} (hK : zK D cI s) (n : Nat) (h1 : Cond.code y bytes maxL ret ∈ lw_tbl) (h2 : Cond.methodLink own index y ∈ lw_tbl) (h3 : Cond.initialized y.cls ∈ lw_tbl) (h4 : Cond.instanceMethod y ∈ lw_tbl) (h5 : Cond.selects C y y ∈ lw_tbl)
    (hd : y.cls ≠ "java/lang/invoke/MethodHandle" ∧ y.cls ≠ "java/lang/invoke/VarHandle" ∧ (parseMethodDescriptor y.desc).map (fun d => d.parameters.length) = some n) (hrc : rm.cells = mc) (hrs : rm.slots = ms) (hR : rm.frames + 1 ≤ R.frames ∧ 8 + (maxL + 11) + rm.locals ≤ R.locals) :
    CallW R s args own C index y bytes maxL ret [.code y bytes maxL ret] rm mc ms n := ⟨hK.cB n h1 h2 h3 hd hrc hrs hR, hK.w h4 rfl, hK.w h5 rfl⟩
theorem zK.cS {D : va_G} {cI : Nat → ClassId} {s : State} {args : Array Value} {R rm : Room} {own : String} {index maxL mc ms : Nat} {y : MethodName} {bytes : ByteArray} {ret : Option FieldType} (hK : zK D cI s) (n : Nat) (h1 : Cond.code y bytes maxL ret ∈ lw_tbl) (h2 : Cond.methodLink own index y ∈ lw_tbl) (h3 : Cond.initialized y.cls ∈ lw_tbl) (h4 : Cond.static y ∈ lw_tbl)
    (hd : y.cls ≠ "java/lang/invoke/MethodHandle" ∧ y.cls ≠ "java/lang/invoke/VarHandle" ∧ (parseMethodDescriptor y.desc).map (fun d => d.parameters.length) = some n) (hrc : rm.cells = mc) (hrs : rm.slots = ms) (hR : rm.frames + 1 ≤ R.frames ∧ 8 + (maxL + 11) + rm.locals ≤ R.locals) :
    CallB R s args own index y bytes maxL ret [.code y bytes maxL ret] rm mc ms n ∧ (Cond.static y).before args s = true := ⟨hK.cB n h1 h2 h3 hd hrc hrs hR, hK.w h4 rfl⟩
theorem zK.cN {D : va_G} {cI : Nat → ClassId} {s : State} {args : Array Value} {R rm : Room} {own C host : String} {index maxL mc ms : Nat} {y : MethodName} {bytes : ByteArray} {ret : Option FieldType} (hK : zK D cI s) (n : Nat) (h1 : Cond.code y bytes maxL ret ∈ lw_tbl) (h2 : Cond.methodLinkNest own index y host ∈ lw_tbl) (h3 : Cond.initialized y.cls ∈ lw_tbl) (h4 : Cond.instanceMethod y ∈ lw_tbl) (h5 : Cond.selects C y y ∈ lw_tbl)
    (hd : y.cls ≠ "java/lang/invoke/MethodHandle" ∧ y.cls ≠ "java/lang/invoke/VarHandle" ∧ (parseMethodDescriptor y.desc).map (fun d => d.parameters.length) = some n) (hrc : rm.cells = mc) (hrs : rm.slots = ms) (hR : rm.frames + 1 ≤ R.frames ∧ 8 + (maxL + 11) + rm.locals ≤ R.locals) :
    va_CN R s args own index y host bytes maxL ret [.code y bytes maxL ret] rm mc ms n ∧ (Cond.instanceMethod y).before args s = true ∧ (Cond.selects C y y).before args s = true :=
  ⟨va_cnB (Ts := [.code y bytes maxL ret]) n (fun w hw => by rw [List.mem_singleton.mp hw]; exact hK.w h1 rfl) (fun w hw => ⟨hw, by rw [List.mem_singleton.mp hw]; exact Or.inl rfl⟩) rfl hrc hrs (hK.nm h2) (hK.w h3 rfl) hd hR, hK.w h4 rfl, hK.w h5 rfl⟩
section ZENDS
variable {p : Program} {l : Launch} {e : Env} {R : Room} {s : State} {m : MethodId} {args : Array Value} {below : List Frame} {meth : Method} {c : Code} {H : Heap} {locs : List Loc} {cells slots : Nat} {Q : State → Prop}
variable {cc : ByteArray} {pc : Nat} {ls : Array Slot} {rest : List Value}
variable {D : va_G} {L : List zC} {ad : Nat → Nat} {cI : Nat → ClassId} {M : zM} {H0 : Heap}
theorem z_iret {post : Int → zM → Prop} {z : Int} (hx : p.tables.exec = Jvm.exec) (hb : c.code = cc) (hr : meth.sig.returnType = some .int) (hlk : meth.locks = false) (hK : zK D cI s) (hX : zX D L ad cI M H) (hS : va_S (zA ad L) s.heap H locs) (hv : -2147483648 ≤ z ∧ z ≤ 2147483647) (hp : post z M) (hdg : decode cc pc = .ok (.ireturn, 1)) :
    W p l e R s m args below meth c H locs cells slots (MQ below (zQi D L ad cI post) args s cells slots (zA ad L)) (F0 m pc ls [.int (zI z)]) :=
  W.iret hx hb hr (fun t ht hW => ⟨⟨zI z, (z, M), rfl, ⟨rfl, hv, hp⟩, by show zX D L ad cI M t.heap; rw [ht]; exact hX⟩, hS.F ht⟩) hS.2.2 hdg hlk
theorem z_zret {post : Int → zM → Prop} {z : Int} (hx : p.tables.exec = Jvm.exec) (hb : c.code = cc) (hr : meth.sig.returnType = some .boolean) (hlk : meth.locks = false) (hK : zK D cI s) (hX : zX D L ad cI M H) (hS : va_S (zA ad L) s.heap H locs) (hv : z = 0 ∨ z = 1) (hp : post z M) (hdg : decode cc pc = .ok (.ireturn, 1)) :
    W p l e R s m args below meth c H locs cells slots (MQ below (zQi D L ad cI post) args s cells slots (zA ad L)) (F0 m pc ls [.int (zI z)]) :=
  W.zret (ty := .boolean) hx hb hr (by rcases hv with rfl | rfl <;> decide) (fun t ht hW => ⟨⟨zI z, (z, M), rfl, ⟨rfl, by omega, hp⟩, by show zX D L ad cI M t.heap; rw [ht]; exact hX⟩, hS.F ht⟩) hS.2.2 hdg hlk
theorem z_vret {post : zM → Prop} (hx : p.tables.exec = Jvm.exec) (hb : c.code = cc) (hr : meth.sig.returnType = none) (hlk : meth.locks = false) (hK : zK D cI s) (hX : zX D L ad cI M H) (hS : va_S (zA ad L) s.heap H locs) (hp : post M) (hdg : decode cc pc = .ok (.return_, 1)) :
    W p l e R s m args below meth c H locs cells slots (MQ below (zQv D L ad cI post) args s cells slots (zA ad L)) (F0 m pc ls []) :=
  W.vret hx hb hr (fun t ht hW => ⟨⟨M, rfl, hp, by show zX D L ad cI M t.heap; rw [ht]; exact hX⟩, hS.F ht⟩) hS.2.2 hdg hlk
theorem z_blind {av : List Value} : FrameBlind (va_Pc av (zP D L ad cI M)) := fun a U g mk q => ⟨q.1, q.2.1, zK.warm (u := U) (U := U.calling g mk a) (State.WarmedH.refl U) q.2.2⟩
variable {y : MethodName} {bytes : ByteArray} {maxL nL n index : Nat} {ret : Option FieldType} {ws : List Cond} {rm : Room} {own C host : String} {As st0 : List Value}
/-- calls of an instance method that answers an int; V: of the class itself, VN: of another class of the nest -/
theorem z_callVi {post : Int → zM → Prop} (hF : zB p s m meth c cc nL own) {o : Nat} (hM : zMi l y (.code y bytes maxL ret) rm D L ad cI M (.ref (ad o) :: As) post) (cw : CallW R s args own C index y bytes maxL ret [.code y bytes maxL ret] rm 0 0 n) (hK : zK D cI s) (hX : zX D L ad cI M H) (hS : va_S (zA ad L) H0 H locs) {ci N : Nat} {T : u_T} {fs : List zF} (ho : L[o]? = some (.inl (ci, fs))) (hc : zCl[ci]? = some (C, T, N)) (hn : As.length = n) (hls : ls.size = nL) (hst : st0 = As.reverse ++ .ref (ad o) :: rest) (hro : (rest.map fun v => v.category).sum ≤ 8) (hdg : decode cc pc = .ok (.invokevirtual index, 3)) (hf : cells ≤ R.cells ∧ slots ≤ R.slots)
    (kk : ∀ (z : Int) (u : zM) (H1 : Heap) (locs1 : List Loc), (-2147483648 ≤ z ∧ z ≤ 2147483647) → post z u → zX D L ad cI u H1 → va_S (zA ad L) H0 H1 locs1 → W p l e R s m args below meth c H1 locs1 cells slots Q (F0 m (pc + 3) ls (.int (zI z) :: rest))) : W p l e R s m args below meth c H locs cells slots Q (F0 m pc ls st0) := by
  refine va_calli (va_runV (As := As) (rest := rest) (Ts := []) ⟨hF.1, hF.2.1, hF.2.2.1, hF.2.2.2.1, fun _ h => nomatch h⟩ hM cw ⟨z_blind, va_recv hK.1 hX.1 hc (zW_is ho), fun U hU hW => ⟨rfl, by rw [hU]; exact hX, zK.warm hW hK⟩⟩ rfl hn hls hst (lv_room hro) hdg hf) hS (fun q _ h => h) (fun q h => h) (fun r u t H1 locs1 ht hvm hp hB _ _ hS1 => ?_)
  obtain ⟨rfl, hz, hp⟩ := hp
  exact kk u.1 u.2 H1 locs1 hz hp (by rw [← ht]; exact hB) hS1
theorem z_callVv {post : zM → Prop} (hF : zB p s m meth c cc nL own) {o : Nat} (hM : zMv l y (.code y bytes maxL ret) rm D L ad cI M (.ref (ad o) :: As) post) (cw : CallW R s args own C index y bytes maxL ret [.code y bytes maxL ret] rm 0 0 n) (hK : zK D cI s) (hX : zX D L ad cI M H) (hS : va_S (zA ad L) H0 H locs) {ci N : Nat} {T : u_T} {fs : List zF} (ho : L[o]? = some (.inl (ci, fs))) (hc : zCl[ci]? = some (C, T, N)) (hn : As.length = n) (hls : ls.size = nL) (hst : st0 = As.reverse ++ .ref (ad o) :: rest) (hro : (rest.map fun v => v.category).sum ≤ 8) (hdg : decode cc pc = .ok (.invokevirtual index, 3)) (hf : cells ≤ R.cells ∧ slots ≤ R.slots)
    (kk : ∀ (u : zM) (H1 : Heap) (locs1 : List Loc), post u → zX D L ad cI u H1 → va_S (zA ad L) H0 H1 locs1 → W p l e R s m args below meth c H1 locs1 cells slots Q (F0 m (pc + 3) ls rest)) : W p l e R s m args below meth c H locs cells slots Q (F0 m pc ls st0) := by
  refine va_callv (va_runV (As := As) (rest := rest) (Ts := []) ⟨hF.1, hF.2.1, hF.2.2.1, hF.2.2.2.1, fun _ h => nomatch h⟩ hM cw ⟨z_blind, va_recv hK.1 hX.1 hc (zW_is ho), fun U hU hW => ⟨rfl, by rw [hU]; exact hX, zK.warm hW hK⟩⟩ rfl hn hls hst (lv_room hro) hdg hf) hS (fun q _ h => h) (fun q h => h) (fun u t H1 locs1 ht hvm hp hB _ _ hS1 => ?_)
  exact kk u H1 locs1 hp (by rw [← ht]; exact hB) hS1
theorem z_callVNi {post : Int → zM → Prop} (hF : zB p s m meth c cc nL own) {o : Nat} (hM : zMi l y (.code y bytes maxL ret) rm D L ad cI M (.ref (ad o) :: As) post) (cw : va_CN R s args own index y host bytes maxL ret [.code y bytes maxL ret] rm 0 0 n ∧ (Cond.instanceMethod y).before args s = true ∧ (Cond.selects C y y).before args s = true) (hK : zK D cI s) (hX : zX D L ad cI M H) (hS : va_S (zA ad L) H0 H locs) {ci N : Nat} {T : u_T} {fs : List zF} (ho : L[o]? = some (.inl (ci, fs))) (hc : zCl[ci]? = some (C, T, N)) (hn : As.length = n) (hls : ls.size = nL) (hst : st0 = As.reverse ++ .ref (ad o) :: rest) (hro : (rest.map fun v => v.category).sum ≤ 8) (hdg : decode cc pc = .ok (.invokevirtual index, 3)) (hf : cells ≤ R.cells ∧ slots ≤ R.slots)
    (kk : ∀ (z : Int) (u : zM) (H1 : Heap) (locs1 : List Loc), (-2147483648 ≤ z ∧ z ≤ 2147483647) → post z u → zX D L ad cI u H1 → va_S (zA ad L) H0 H1 locs1 → W p l e R s m args below meth c H1 locs1 cells slots Q (F0 m (pc + 3) ls (.int (zI z) :: rest))) : W p l e R s m args below meth c H locs cells slots Q (F0 m pc ls st0) := by
  refine va_calli (va_runVN (As := As) (rest := rest) (Ts := []) ⟨hF.1, hF.2.1, hF.2.2.1, hF.2.2.2.1, fun _ h => nomatch h⟩ hM cw ⟨z_blind, va_recv hK.1 hX.1 hc (zW_is ho), fun U hU hW => ⟨rfl, by rw [hU]; exact hX, zK.warm hW hK⟩⟩ rfl hn hls hst (lv_room hro) hdg hf) hS (fun q _ h => h) (fun q h => h) (fun r u t H1 locs1 ht hvm hp hB _ _ hS1 => ?_)
  obtain ⟨rfl, hz, hp⟩ := hp
  exact kk u.1 u.2 H1 locs1 hz hp (by rw [← ht]; exact hB) hS1
theorem z_callVNv {post : zM → Prop} (hF : zB p s m meth c cc nL own) {o : Nat} (hM : zMv l y (.code y bytes maxL ret) rm D L ad cI M (.ref (ad o) :: As) post) (cw : va_CN R s args own index y host bytes maxL ret [.code y bytes maxL ret] rm 0 0 n ∧ (Cond.instanceMethod y).before args s = true ∧ (Cond.selects C y y).before args s = true) (hK : zK D cI s) (hX : zX D L ad cI M H) (hS : va_S (zA ad L) H0 H locs) {ci N : Nat} {T : u_T} {fs : List zF} (ho : L[o]? = some (.inl (ci, fs))) (hc : zCl[ci]? = some (C, T, N)) (hn : As.length = n) (hls : ls.size = nL) (hst : st0 = As.reverse ++ .ref (ad o) :: rest) (hro : (rest.map fun v => v.category).sum ≤ 8) (hdg : decode cc pc = .ok (.invokevirtual index, 3)) (hf : cells ≤ R.cells ∧ slots ≤ R.slots)
    (kk : ∀ (u : zM) (H1 : Heap) (locs1 : List Loc), post u → zX D L ad cI u H1 → va_S (zA ad L) H0 H1 locs1 → W p l e R s m args below meth c H1 locs1 cells slots Q (F0 m (pc + 3) ls rest)) : W p l e R s m args below meth c H locs cells slots Q (F0 m pc ls st0) := by
  refine va_callv (va_runVN (As := As) (rest := rest) (Ts := []) ⟨hF.1, hF.2.1, hF.2.2.1, hF.2.2.2.1, fun _ h => nomatch h⟩ hM cw ⟨z_blind, va_recv hK.1 hX.1 hc (zW_is ho), fun U hU hW => ⟨rfl, by rw [hU]; exact hX, zK.warm hW hK⟩⟩ rfl hn hls hst (lv_room hro) hdg hf) hS (fun q _ h => h) (fun q h => h) (fun u t H1 locs1 ht hvm hp hB _ _ hS1 => ?_)
  exact kk u H1 locs1 hp (by rw [← ht]; exact hB) hS1
theorem z_callSv {post : zM → Prop} (hF : zB p s m meth c cc nL own) (hM : zMv l y (.code y bytes maxL ret) rm D L ad cI M As post) (cw : CallB R s args own index y bytes maxL ret [.code y bytes maxL ret] rm 0 0 n ∧ (Cond.static y).before args s = true) (hK : zK D cI s) (hX : zX D L ad cI M H) (hS : va_S (zA ad L) H0 H locs) (hn : As.length = n) (hls : ls.size = nL) (hst : st0 = As.reverse ++ rest) (hro : (rest.map fun v => v.category).sum ≤ 8) (hdg : decode cc pc = .ok (.invokestatic index, 3)) (hf : cells ≤ R.cells ∧ slots ≤ R.slots)
    (kk : ∀ (u : zM) (H1 : Heap) (locs1 : List Loc), post u → zX D L ad cI u H1 → va_S (zA ad L) H0 H1 locs1 → W p l e R s m args below meth c H1 locs1 cells slots Q (F0 m (pc + 3) ls rest)) : W p l e R s m args below meth c H locs cells slots Q (F0 m pc ls st0) := by
  refine va_callv (va_runS (As := As) (rest := rest) (Ts := []) ⟨hF.1, hF.2.1, hF.2.2.1, hF.2.2.2.1, fun _ h => nomatch h⟩ hM cw ⟨z_blind, fun U hU hW => ⟨rfl, by rw [hU]; exact hX, zK.warm hW hK⟩⟩ rfl hn hls hst (lv_room hro) hdg hf) hS (fun q _ h => h) (fun q h => h) (fun u t H1 locs1 ht hvm hp hB _ _ hS1 => ?_)
  exact kk u H1 locs1 hp (by rw [← ht]; exact hB) hS1
end ZENDS
end
section
/-! The class as functions of its memory. Cells: 0 the object (4 minute, 5 cameIn, 6 wentOut), 1 Rooms (0 count), 2 Doors (0 count), 3 Trails, 4 Persons (1 count);
5 cells, 6 inside, 7 most, 8 fullEnds; 9 near, 10 far, 11 width, 12 wentOn, 13 wentBack, 14 wentNow, 15 steps; 16 moves, 17 minutes, 18 places; 19 comes, 20 desk, 21 eatsFrom, 22 eatsUntil, 23 eatsIn, 24 leaves, 25 waits -/
/-- the row of the object's cells -/
def xL (sd : Int64) : List zC := [.inl (0, [.inl 1, .inl 2, .inl 3, .inl 4, .inr (.inl ()), .inr (.inl ()), .inr (.inl ())]),
  .inl (1, [.inr (.inl ()), .inl 5, .inl 6, .inl 7, .inl 8]),
  .inl (2, [.inr (.inl ()), .inl 9, .inl 10, .inl 11, .inl 12, .inl 13, .inl 14, .inl 15]),
  .inl (3, [.inl 16, .inl 17, .inl 18]),
  .inl (4, [.inr (.inr sd), .inr (.inl ()), .inl 19, .inl 20, .inl 21, .inl 22, .inl 23, .inl 24, .inl 25]),
  .inr (0, 12), .inr (0, 12), .inr (0, 12), .inr (0, 12), .inr (0, 16), .inr (0, 16), .inr (0, 16), .inr (0, 16), .inr (0, 16), .inr (0, 16), .inr (0, 144), .inr (0, 60), .inr (0, 2760), .inr (0, 2760), .inr (0, 60), .inr (0, 60), .inr (0, 60), .inr (0, 60), .inr (0, 60), .inr (0, 60), .inr (0, 60)]
def xRoomsAdd (M : zM) (v : Int) : zM := zU (zU M 5 (M 1 0) v) 1 0 (M 1 0 + 1)
def xEndI (M : zM) (i : Int) : zM := if M 6 i < M 5 i then zU M 7 i (max (M 7 i) (M 6 i)) else zU (zU M 7 i (max (M 7 i) (M 6 i))) 8 i (bm (M 8 i + 1))
def xEndN (M : zM) : Nat → zM
  | 0 => M
  | k + 1 => xEndI (xEndN M k) k
def xEnd (M : zM) : zM := xEndN M (M 1 0).toNat
def xShI (M : zM) (a b i j : Int) : zM :=
  zU M 15 (i * 12 + j) (min (M 15 (i * 12 + j)) (min (M 15 (i * 12 + a) + 1 + M 15 (b * 12 + j)) (M 15 (i * 12 + b) + 1 + M 15 (a * 12 + j))))
def xShR (M : zM) (a b i : Int) : Nat → zM
  | 0 => M
  | k + 1 => xShI (xShR M a b i k) a b i k
def xShN (M : zM) (a b : Int) : Nat → zM
  | 0 => M
  | k + 1 => xShR (xShN M a b k) a b k 12
def xDoorsAdd (M : zM) (a b w : Int) : zM := xShN (zU (zU (zU (zU M 9 (M 2 0) a) 10 (M 2 0) b) 11 (M 2 0) w) 2 0 (M 2 0 + 1)) a b 12
def xSide (M : zM) (d h : Int) : Int := if M 9 d = h then M 10 d else if M 10 d = h then M 9 d else -1
/-- the first door of d, d + 1 .. (n of them) whose other room is nearer -/
def xTowN (M : zM) (h g : Int) : Nat → Int → Int
  | 0, _ => -1
  | n + 1, d => if xSide M d h ≠ -1 ∧ M 15 (xSide M d h * 12 + g) < M 15 (h * 12 + g) then d else xTowN M h g n (d + 1)
def xTow (M : zM) (h g : Int) : Int := if M 15 (h * 12 + g) < 1000 then xTowN M h g (M 2 0).toNat 0 else -1
def xFill (M : zM) (k n : Nat) (v : Int) : zM := fun c i => if c = k ∧ 0 ≤ i ∧ i < n then v else M c i
def xPass (M : zM) (d h : Int) : zM := if M 9 d = h then zU (zU M 14 d (bm (M 14 d + 1))) 12 d (bm (M 12 d + 1)) else zU (zU M 14 d (bm (M 14 d + 1))) 13 d (bm (M 13 d + 1))
def xTrailAdd (M : zM) (p t r : Int) : zM := if 46 ≤ M 16 p then M else zU (zU (zU M 17 (p * 46 + M 16 p) t) 18 (p * 46 + M 16 p) r) 16 p (M 16 p + 1)
def xNow (M : zM) (p : Int) : Int := if M 16 p = 0 then -1 else M 18 (p * 46 + M 16 p - 1)
/-- the place behind minute t, by the first k moves -/
def xBehN (M : zM) (p t : Int) : Nat → Int
  | 0 => -1
  | k + 1 => if M 17 (p * 46 + k) ≤ t then M 18 (p * 46 + k) else xBehN M p t k
def xBeh (M : zM) (p t : Int) : Int := xBehN M p t (M 16 p).toNat
def xJoinN (M : zM) (p o : Int) : Nat → Int → Int
  | 0, _ => -1
  | n + 1, i => if M 18 (p * 46 + i) ≠ -1 ∧ xBeh M o (M 17 (p * 46 + i)) = M 18 (p * 46 + i) then M 17 (p * 46 + i) else xJoinN M p o n (i + 1)
def xJoin (M : zM) (p o : Int) : Int := xJoinN M p o (M 16 p).toNat 0
def xMet (M : zM) (p o : Int) : Int := if xJoin M p o = -1 ∨ xJoin M o p = -1 then max (xJoin M p o) (xJoin M o p) else min (xJoin M p o) (xJoin M o p)
def xZ0 (sd : Int64) (p k : Int) : Int64 := sd + (-7046029254386353131 : Int64) * (zI (8 * p + k + 1)).toInt64
def xSr (x : Int64) (n : Int) : Int64 := (x.toUInt64 >>> ((zI n).toInt64.toUInt64 &&& Int64.toUInt64 63)).toInt64
def xZ1 (sd : Int64) (p k : Int) : Int64 := (xZ0 sd p k ^^^ xSr (xZ0 sd p k) 30) * (-4658895280553007687 : Int64)
def xZ2 (sd : Int64) (p k : Int) : Int64 := (xZ1 sd p k ^^^ xSr (xZ1 sd p k) 27) * (-7723592293110705685 : Int64)
def xZ3 (sd : Int64) (p k : Int) : Int64 := xZ2 sd p k ^^^ xSr (xZ2 sd p k) 31
def xZ (sd : Int64) (p k : Int) : Int64 := xSr (xZ3 sd p k) 1
def xDraw (sd : Int64) (p k m : Int) : Int := (xZ sd p k - xZ sd p k / (zI m).toInt64 * (zI m).toInt64).toInt32.toInt
def xWants (M : zM) (p t : Int) : Int := if M 24 p ≤ t then -1 else if M 21 p ≤ t ∧ t < M 22 p then M 23 p else M 20 p
def xPlanI (sd : Int64) (M : zM) (r p : Int) : zM :=
  zU (zU (zU (zU (zU M 20 p (xDraw sd p 0 r)) 21 p (M 19 p + 30 + xDraw sd p 1 90)) 22 p (M 19 p + 30 + xDraw sd p 1 90 + 20 + xDraw sd p 2 20)) 23 p (xDraw sd p 3 r)) 24 p (M 19 p + 200 + xDraw sd p 4 200)
def xPlanN (sd : Int64) (M : zM) (r : Int) : Nat → zM
  | 0 => M
  | k + 1 => xPlanI sd (xPlanN sd M r k) r k
def xPlan (sd : Int64) (M : zM) (r : Int) : zM := xPlanN sd M r (M 4 1).toNat
/-- arrivals: those that come later move up by n; k of them are still to be looked at -/
def xShiftN (t n : Int) : Nat → zM → Nat × zM
  | 0, M => (0, M)
  | k + 1, M => if t < M 19 k then xShiftN t n k (zU M 19 (k + n) (M 19 k)) else (k + 1, M)
def xPutN (M : zM) (t q : Int) : Nat → zM
  | 0 => M
  | k + 1 => zU (xPutN M t q k) 19 (q + k) t
def xPersAdd (M : zM) (t n : Int) : zM :=
  let r := xShiftN t n (M 4 1).toNat M
  zU (xPutN r.2 t r.1 n.toNat) 4 1 (M 4 1 + n)
def xEntr (M : zM) (p : Int) : zM := if M 6 0 < M 5 0 then xTrailAdd (zU (zU M 6 0 (bm (M 6 0 + 1))) 0 5 (bm (M 0 5 + 1))) p (M 0 4) 0 else zU M 25 p (bm (M 25 p + 1))
def xOut (M : zM) (p : Int) : zM := xTrailAdd (zU (zU M 6 0 (bm (M 6 0 - 1))) 0 6 (bm (M 0 6 + 1))) p (M 0 4) (-1)
def xDoorTo (M : zM) (p h d r : Int) : zM :=
  xTrailAdd (zU (zU (xPass M d h) 6 h (bm (xPass M d h 6 h - 1))) 6 r (bm (zU (xPass M d h) 6 h (bm (xPass M d h 6 h - 1)) 6 r + 1))) p (xPass M d h 0 4) r
def xNext (M : zM) (h g : Int) : Int := if xTow M h g = -1 then -1 else xSide M (xTow M h g) h
def xTryDoor (M : zM) (p h g : Int) : zM :=
  if xNext M h g = -1 then M else if M 6 (xNext M h g) < M 5 (xNext M h g) ∧ M 14 (xTow M h g) < M 11 (xTow M h g) then xDoorTo M p h (xTow M h g) (xNext M h g) else zU M 25 p (bm (M 25 p + 1))
def xStep (M : zM) (p : Int) : zM :=
  if xNow M p = xWants M p (M 0 4) then M else if xNow M p = -1 then xEntr M p else if xWants M p (M 0 4) ≠ -1 then xTryDoor M p (xNow M p) (xWants M p (M 0 4)) else if xNow M p ≠ 0 then xTryDoor M p (xNow M p) 0 else xOut M p
/-- the persons p, p + 1 .. (n of them at most), as long as they have come -/
def xStepN : Nat → Int → zM → zM
  | 0, _, M => M
  | n + 1, p, M => if M 19 p ≤ M 0 4 then xStepN n (p + 1) (xStep M p) else M
def xMinA (M : zM) : zM := xEnd (xStepN (M 4 1).toNat 0 (xFill M 14 16 0))
def xMin (M : zM) : zM := zU (xMinA M) 0 4 (xMinA M 0 4 + 1)
def xRun (M : zM) : Nat → zM
  | 0 => M
  | k + 1 => xMin (xRun M k)
theorem xEndI_c {M : zM} {i : Int} {c : Nat} (h7 : c ≠ 7) (h8 : c ≠ 8) : xEndI M i c = M c := by
  unfold xEndI
  split
  · exact zU_k h7
  · rw [zU_k h8, zU_k h7]
theorem xEndN_c {M : zM} {c : Nat} (h7 : c ≠ 7) (h8 : c ≠ 8) : ∀ k, xEndN M k c = M c
  | 0 => rfl
  | k + 1 => (xEndI_c h7 h8).trans (xEndN_c h7 h8 k)
theorem xSide_or (M : zM) (d h : Int) : xSide M d h = M 10 d ∨ xSide M d h = M 9 d ∨ xSide M d h = -1 := by
  unfold xSide
  split
  · exact Or.inl rfl
  · split
    · exact Or.inr (Or.inl rfl)
    · exact Or.inr (Or.inr rfl)
theorem xTowN_rg (M : zM) (h g : Int) : ∀ (n : Nat) (d : Int), xTowN M h g n d = -1 ∨ (d ≤ xTowN M h g n d ∧ xTowN M h g n d < d + n)
  | 0, d => Or.inl rfl
  | n + 1, d => by
    unfold xTowN
    split
    · exact Or.inr ⟨Int.le_refl _, by omega⟩
    · rcases xTowN_rg M h g n (d + 1) with q | q
      · exact Or.inl q
      · exact Or.inr ⟨by omega, by omega⟩
theorem xTow_rg (M : zM) (h g : Int) (hc : 0 ≤ M 2 0) : xTow M h g = -1 ∨ (0 ≤ xTow M h g ∧ xTow M h g < M 2 0) := by
  unfold xTow
  split
  · rcases xTowN_rg M h g (M 2 0).toNat 0 with q | q
    · exact Or.inl q
    · exact Or.inr ⟨q.1, by omega⟩
  · exact Or.inl rfl
theorem xPass_c {M : zM} {d h : Int} {c : Nat} (h2 : c ≠ 12) (h3 : c ≠ 13) (h4 : c ≠ 14) : xPass M d h c = M c := by
  unfold xPass
  split
  · rw [zU_k h2, zU_k h4]
  · rw [zU_k h3, zU_k h4]
theorem xWants_or (M : zM) (p t : Int) : xWants M p t = -1 ∨ xWants M p t = M 23 p ∨ xWants M p t = M 20 p := by
  unfold xWants
  split
  · exact Or.inl rfl
  · split
    · exact Or.inr (Or.inl rfl)
    · exact Or.inr (Or.inr rfl)
theorem xPlanI_c {sd : Int64} {M : zM} {r p : Int} {c : Nat} (h0 : c ≠ 20) (h1 : c ≠ 21) (h2 : c ≠ 22) (h3 : c ≠ 23) (h4 : c ≠ 24) : xPlanI sd M r p c = M c := by
  unfold xPlanI
  rw [zU_k h4, zU_k h3, zU_k h2, zU_k h1, zU_k h0]
theorem xPlanN_c {sd : Int64} {M : zM} {r : Int} {c : Nat} (h0 : c ≠ 20) (h1 : c ≠ 21) (h2 : c ≠ 22) (h3 : c ≠ 23) (h4 : c ≠ 24) : ∀ k, xPlanN sd M r k c = M c
  | 0 => rfl
  | k + 1 => (xPlanI_c h0 h1 h2 h3 h4).trans (xPlanN_c h0 h1 h2 h3 h4 k)
theorem xShI_b {M : zM} (h : ∀ x, 0 ≤ x → x < 144 → 0 ≤ M 15 x ∧ M 15 x ≤ 1000) {a b i j : Int} (ha : 0 ≤ a ∧ a < 12) (hb : 0 ≤ b ∧ b < 12) (hi : 0 ≤ i ∧ i < 12) (hj : 0 ≤ j ∧ j < 12) : ∀ x, 0 ≤ x → x < 144 → 0 ≤ xShI M a b i j 15 x ∧ xShI M a b i j 15 x ≤ 1000 := by
  intro x h1 h2
  unfold xShI
  by_cases hx : x = i * 12 + j
  · subst hx
    rw [zU_s]
    have q1 := h (i * 12 + j) (by omega) (by omega)
    have q2 := h (i * 12 + a) (by omega) (by omega)
    have q3 := h (i * 12 + b) (by omega) (by omega)
    have q4 := h (b * 12 + j) (by omega) (by omega)
    have q5 := h (a * 12 + j) (by omega) (by omega)
    omega
  · rw [zU_n hx]
    exact h x h1 h2
theorem xShR_b {M : zM} (h : ∀ x, 0 ≤ x → x < 144 → 0 ≤ M 15 x ∧ M 15 x ≤ 1000) {a b i : Int} (ha : 0 ≤ a ∧ a < 12) (hb : 0 ≤ b ∧ b < 12) (hi : 0 ≤ i ∧ i < 12) : ∀ k : Nat, k ≤ 12 → ∀ x, 0 ≤ x → x < 144 → 0 ≤ xShR M a b i k 15 x ∧ xShR M a b i k 15 x ≤ 1000
  | 0, _ => h
  | k + 1, hk => xShI_b (xShR_b h ha hb hi k (by omega)) ha hb hi (by omega)
theorem xShN_b {M : zM} (h : ∀ x, 0 ≤ x → x < 144 → 0 ≤ M 15 x ∧ M 15 x ≤ 1000) {a b : Int} (ha : 0 ≤ a ∧ a < 12) (hb : 0 ≤ b ∧ b < 12) : ∀ k : Nat, k ≤ 12 → ∀ x, 0 ≤ x → x < 144 → 0 ≤ xShN M a b k 15 x ∧ xShN M a b k 15 x ≤ 1000
  | 0, _ => h
  | k + 1, hk => xShR_b (xShN_b h ha hb k (by omega)) ha hb (by omega) 12 (Nat.le_refl 12)
theorem xNext_rg {M : zM} {h g : Int} (hc : 0 ≤ M 2 0) (h4 : ∀ d, 0 ≤ d → d < M 2 0 → (0 ≤ M 9 d ∧ M 9 d < 12) ∧ 0 ≤ M 10 d ∧ M 10 d < 12) : xNext M h g = -1 ∨ (0 ≤ xTow M h g ∧ xTow M h g < M 2 0 ∧ xNext M h g = xSide M (xTow M h g) h ∧ 0 ≤ xNext M h g ∧ xNext M h g < 12) := by
  unfold xNext
  have e8 := xTow_rg M h g hc
  split
  · exact Or.inl rfl
  · have h9 := h4 (xTow M h g) (by omega) (by omega)
    have e9 := xSide_or M (xTow M h g) h
    omega
end
section
/-! bits: rows of kit/laws/BITS.to-paste (family wb_), pasted; then the draw's bounds -/
theorem wb_tb (n : Nat) : (lN n).toBitVec = BitVec.ofNat 64 n := rfl
theorem wb_inj {a b : Int64} (h : a.toBitVec = b.toBitVec) : a = b := Int64.toBitVec_inj.mp h
theorem wb_tn {n : Nat} (h : n < 2 ^ 64) : (lN n).toBitVec.toNat = n := by rw [wb_tb, BitVec.toNat_ofNat, Nat.mod_eq_of_lt h]
theorem wb_of (x : Int64) : ∃ n, n < 2 ^ 64 ∧ x = lN n := ⟨x.toBitVec.toNat, x.toBitVec.isLt, wb_inj (by rw [wb_tb]; simp)⟩
theorem wb_cu : ∀ k, k < 64 → ((nI k).toInt64.toUInt64 &&& Int64.toUInt64 63) = UInt64.ofNat k := by decide +kernel
theorem wb_shr {n k : Nat} (hn : n < 2 ^ 64) (hk : k < 64) : ((lN n).toUInt64 >>> ((nI k).toInt64.toUInt64 &&& Int64.toUInt64 63)).toInt64 = lN (n / 2 ^ k) := by
  rw [wb_cu k hk]
  apply wb_inj
  apply BitVec.eq_of_toNat_eq
  show ((lN n).toUInt64 >>> UInt64.ofNat k).toNat = (BitVec.ofNat 64 _).toNat
  have h1 : (UInt64.ofNat k).toNat = k := by
    show (BitVec.ofNat 64 k).toNat = k
    rw [BitVec.toNat_ofNat, Nat.mod_eq_of_lt (by omega)]
  have h2 : (lN n).toUInt64.toNat = n := wb_tn hn
  rw [UInt64.toNat_shiftRight, h1, h2, Nat.mod_eq_of_lt hk, Nat.shiftRight_eq_div_pow, BitVec.toNat_ofNat, Nat.mod_eq_of_lt (Nat.lt_of_le_of_lt (Nat.div_le_self _ _) hn)]
theorem zI_nI (n : Nat) : zI (n : Int) = nI n := by
  show Int32.ofInt (n : Int) = Int32.ofNat n
  apply Int32.toBitVec_inj.mp
  show BitVec.ofInt 32 (n : Int) = BitVec.ofNat 32 n
  exact BitVec.ofInt_natCast 32 n
theorem xDraw_is (sd : Int64) (p k : Int) {m : Int} (hm : 1 ≤ m ∧ m ≤ 2147483647) : ∃ n : Nat, n < 2 ^ 63 ∧ xZ sd p k = lN n ∧ xDraw sd p k m = ((n % m.toNat : Nat) : Int) := by
  obtain ⟨a, ha, ea⟩ := wb_of (xZ3 sd p k)
  have e1 : xZ sd p k = lN (a / 2 ^ 1) := by
    unfold xZ xSr
    rw [ea]
    exact wb_shr ha (by decide)
  refine ⟨a / 2 ^ 1, by omega, e1, ?_⟩
  have e2 : (zI m).toInt64 = lN m.toNat := by
    rw [show m = ((m.toNat : Nat) : Int) by omega, zI_nI]
    exact nI_l (by omega)
  unfold xDraw
  rw [e1, e2, pk_lRem (by omega) (by omega) (by omega), lN_i]
  exact nI_toInt (by have := Nat.mod_lt (a / 2 ^ 1) (show 0 < m.toNat by omega); omega)
theorem xDraw_rg (sd : Int64) (p k : Int) {m : Int} (hm : 1 ≤ m ∧ m ≤ 2147483647) : 0 ≤ xDraw sd p k m ∧ xDraw sd p k m < m := by
  obtain ⟨n, h1, h2, h3⟩ := xDraw_is sd p k hm
  have := Nat.mod_lt n (show 0 < m.toNat by omega)
  omega
/-- an equation that omega does not look into -/
def zSame (a b : Int) : Prop := a = b
end
section
/-! Distances: d is the fewest doors between rooms (1000: no way). Doors k < n join a k and b k. -/
def gJ (n : Int) (a b : Int → Int) (x y : Int) : Prop := ∃ k, 0 ≤ k ∧ k < n ∧ ((a k = x ∧ b k = y) ∨ (a k = y ∧ b k = x))
theorem gJ.symm {n : Int} {a b : Int → Int} {x y : Int} (h : gJ n a b x y) : gJ n a b y x := by
  obtain ⟨k, h1, h2, h3⟩ := h
  exact ⟨k, h1, h2, h3.symm⟩
def gM (n : Int) (a b : Int → Int) (d : Int → Int → Int) : Prop :=
  (∀ i, 0 ≤ i → i < 12 → d i i = 0) ∧ (∀ i j, 0 ≤ i → i < 12 → 0 ≤ j → j < 12 → 0 ≤ d i j ∧ d i j ≤ 1000) ∧
  (∀ i x y, 0 ≤ i → i < 12 → 0 ≤ x → x < 12 → 0 ≤ y → y < 12 → gJ n a b x y → d i x ≤ d i y + 1) ∧
  (∀ i j, 0 ≤ i → i < 12 → 0 ≤ j → j < 12 → i ≠ j → d i j < 1000 → ∃ x, 0 ≤ x ∧ x < 12 ∧ gJ n a b x j ∧ d i x + 1 = d i j)
theorem gM_leN {n : Int} {a b : Int → Int} {d d' : Int → Int → Int} (h : gM n a b d) (h' : gM n a b d') : ∀ (v : Nat) (i j : Int), 0 ≤ i → i < 12 → 0 ≤ j → j < 12 → d' i j = v → d i j ≤ v := by
  intro v
  induction v with
  | zero =>
    intro i j hi hi2 hj hj2 hv
    by_cases hij : i = j
    · subst hij
      rw [h.1 i hi hi2]; omega
    · obtain ⟨x, hx, hx2, -, hd⟩ := h'.2.2.2 i j hi hi2 hj hj2 hij (by omega)
      have := (h'.2.1 i x hi hi2 hx hx2).1
      omega
  | succ v ih =>
    intro i j hi hi2 hj hj2 hv
    have hb := (h.2.1 i j hi hi2 hj hj2)
    by_cases hlt : d' i j < 1000
    · by_cases hij : i = j
      · subst hij
        rw [h.1 i hi hi2]; omega
      · obtain ⟨x, hx, hx2, hJ, hd⟩ := h'.2.2.2 i j hi hi2 hj hj2 hij hlt
        have h1 := ih i x hi hi2 hx hx2 (by omega)
        have h2 := h.2.2.1 i j x hi hi2 hj hj2 hx hx2 hJ.symm
        omega
    · omega
theorem gM_le {n : Int} {a b : Int → Int} {d d' : Int → Int → Int} (h : gM n a b d) (h' : gM n a b d') {i j : Int} (hi : 0 ≤ i) (hi2 : i < 12) (hj : 0 ≤ j) (hj2 : j < 12) : d i j ≤ d' i j := by
  have h0 := (h'.2.1 i j hi hi2 hj hj2).1
  have := gM_leN h h' (d' i j).toNat i j hi hi2 hj hj2 (by omega)
  omega
theorem gM_eq {n : Int} {a b : Int → Int} {d d' : Int → Int → Int} (h : gM n a b d) (h' : gM n a b d') {i j : Int} (hi : 0 ≤ i) (hi2 : i < 12) (hj : 0 ≤ j) (hj2 : j < 12) : d i j = d' i j := by
  have h1 := gM_le h h' hi hi2 hj hj2
  have h2 := gM_le h' h hi hi2 hj hj2
  omega
theorem gM_triN {n : Int} {a b : Int → Int} {d : Int → Int → Int} (h : gM n a b d) : ∀ (v : Nat) (i k j : Int), 0 ≤ i → i < 12 → 0 ≤ k → k < 12 → 0 ≤ j → j < 12 → d k j = v → d i j ≤ d i k + v := by
  intro v
  induction v with
  | zero =>
    intro i k j hi hi2 hk hk2 hj hj2 hv
    by_cases hkj : k = j
    · subst hkj; omega
    · obtain ⟨x, hx, hx2, -, hd⟩ := h.2.2.2 k j hk hk2 hj hj2 hkj (by omega)
      have := (h.2.1 k x hk hk2 hx hx2).1
      omega
  | succ v ih =>
    intro i k j hi hi2 hk hk2 hj hj2 hv
    have hb := (h.2.1 i j hi hi2 hj hj2)
    have hb2 := (h.2.1 i k hi hi2 hk hk2)
    by_cases hlt : d k j < 1000
    · by_cases hkj : k = j
      · subst hkj; omega
      · obtain ⟨x, hx, hx2, hJ, hd⟩ := h.2.2.2 k j hk hk2 hj hj2 hkj hlt
        have h1 := ih i k x hi hi2 hk hk2 hx hx2 (by omega)
        have h2 := h.2.2.1 i j x hi hi2 hj hj2 hx hx2 hJ.symm
        omega
    · omega
theorem gM_tri {n : Int} {a b : Int → Int} {d : Int → Int → Int} (h : gM n a b d) {i k j : Int} (hi : 0 ≤ i) (hi2 : i < 12) (hk : 0 ≤ k) (hk2 : k < 12) (hj : 0 ≤ j) (hj2 : j < 12) : d i j ≤ d i k + d k j := by
  have h0 := (h.2.1 k j hk hk2 hj hj2).1
  have := gM_triN h (d k j).toNat i k j hi hi2 hk hk2 hj hj2 (by omega)
  omega
def gF (d : Int → Int → Int) (A B : Int) : Int → Int → Int := fun i j => min (d i j) (min (d i A + 1 + d B j) (d i B + 1 + d A j))
theorem gF_le {d : Int → Int → Int} {A B i j : Int} : gF d A B i j ≤ d i j ∧ gF d A B i j ≤ d i A + 1 + d B j ∧ gF d A B i j ≤ d i B + 1 + d A j := by
  unfold gF; omega
theorem gF_is {d : Int → Int → Int} {A B i j : Int} : gF d A B i j = d i j ∨ gF d A B i j = d i A + 1 + d B j ∨ gF d A B i j = d i B + 1 + d A j := by
  unfold gF; omega
/-- a new door between A and B -/
theorem gM_add {n : Int} {a b a' b' : Int → Int} {d : Int → Int → Int} {A B : Int} (h : gM n a b d) (hn : 0 ≤ n) (ha : ∀ k, 0 ≤ k → k < n → a' k = a k ∧ b' k = b k) (hA : a' n = A) (hB : b' n = B) (hA0 : 0 ≤ A) (hA1 : A < 12) (hB0 : 0 ≤ B) (hB1 : B < 12) : gM (n + 1) a' b' (gF d A B) := by
  have hJ : ∀ x y, gJ (n + 1) a' b' x y → gJ n a b x y ∨ (x = A ∧ y = B) ∨ (x = B ∧ y = A) := by
    intro x y hxy
    obtain ⟨k, h1, h2, h3⟩ := hxy
    by_cases hk : k < n
    · obtain ⟨e1, e2⟩ := ha k h1 hk
      rw [e1, e2] at h3
      exact Or.inl ⟨k, h1, hk, h3⟩
    · have : k = n := by omega
      subst this
      rw [hA, hB] at h3
      rcases h3 with ⟨e1, e2⟩ | ⟨e1, e2⟩
      · exact Or.inr (Or.inl ⟨e1.symm, e2.symm⟩)
      · exact Or.inr (Or.inr ⟨e2.symm, e1.symm⟩)
  have hJ2 : ∀ x y, gJ n a b x y → gJ (n + 1) a' b' x y := by
    intro x y hxy
    obtain ⟨k, h1, h2, h3⟩ := hxy
    obtain ⟨e1, e2⟩ := ha k h1 h2
    refine ⟨k, h1, by omega, ?_⟩
    rw [e1, e2]; exact h3
  have hJ3 : gJ (n + 1) a' b' A B := ⟨n, hn, by omega, Or.inl ⟨hA, hB⟩⟩
  have hAA := h.1 A hA0 hA1
  have hBB := h.1 B hB0 hB1
  have lip : ∀ i x y, 0 ≤ i → i < 12 → 0 ≤ x → x < 12 → 0 ≤ y → y < 12 → gJ (n + 1) a' b' x y → gF d A B i x ≤ gF d A B i y + 1 := by
    intro i x y hi hi2 hx hx2 hy hy2 hxy
    have g1 := @gF_le d A B i x
    have g2 := @gF_is d A B i y
    rcases hJ x y hxy with q | ⟨rfl, rfl⟩ | ⟨rfl, rfl⟩
    · have l1 := h.2.2.1 i x y hi hi2 hx hx2 hy hy2 q
      have l2 := h.2.2.1 A x y hA0 hA1 hx hx2 hy hy2 q
      have l3 := h.2.2.1 B x y hB0 hB1 hx hx2 hy hy2 q
      omega
    · have l1 := h.2.1 i x hi hi2 hx hx2
      have l2 := h.2.1 i y hi hi2 hy hy2
      have l3 := h.2.1 x y hx hx2 hy hy2
      have l4 := h.2.1 y x hy hy2 hx hx2
      omega
    · have l1 := h.2.1 i x hi hi2 hx hx2
      have l2 := h.2.1 i y hi hi2 hy hy2
      have l3 := h.2.1 x y hx hx2 hy hy2
      have l4 := h.2.1 y x hy hy2 hx hx2
      omega
  have nn : ∀ i j, 0 ≤ i → i < 12 → 0 ≤ j → j < 12 → 0 ≤ gF d A B i j ∧ gF d A B i j ≤ 1000 := by
    intro i j hi hi2 hj hj2
    have g1 := @gF_le d A B i j
    have g2 := @gF_is d A B i j
    have l1 := h.2.1 i j hi hi2 hj hj2
    have l2 := h.2.1 i A hi hi2 hA0 hA1
    have l3 := h.2.1 i B hi hi2 hB0 hB1
    have l4 := h.2.1 A j hA0 hA1 hj hj2
    have l5 := h.2.1 B j hB0 hB1 hj hj2
    omega
  refine ⟨fun i hi hi2 => ?_, nn, lip, fun i j hi hi2 hj hj2 hij hlt => ?_⟩
  · have g1 := @gF_le d A B i i
    have g3 := h.1 i hi hi2
    have g4 := (nn i i hi hi2 hi hi2).1
    omega
  · have close : ∀ x, 0 ≤ x → x < 12 → gJ (n + 1) a' b' x j → gF d A B i x + 1 ≤ gF d A B i j → ∃ x, 0 ≤ x ∧ x < 12 ∧ gJ (n + 1) a' b' x j ∧ gF d A B i x + 1 = gF d A B i j := by
      intro x hx hx2 hxj hle
      have := lip i j x hi hi2 hj hj2 hx hx2 hxj.symm
      exact ⟨x, hx, hx2, hxj, by omega⟩
    have b2 := h.2.1 i A hi hi2 hA0 hA1
    have b3 := h.2.1 i B hi hi2 hB0 hB1
    have b4 := h.2.1 A j hA0 hA1 hj hj2
    have b5 := h.2.1 B j hB0 hB1 hj hj2
    rcases @gF_is d A B i j with g | g | g
    · obtain ⟨x, hx, hx2, hxj, hd⟩ := h.2.2.2 i j hi hi2 hj hj2 hij (by omega)
      have g1 := @gF_le d A B i x
      exact close x hx hx2 (hJ2 x j hxj) (by omega)
    · by_cases hb : B = j
      · subst hb
        have g1 := @gF_le d A B i A
        exact close A hA0 hA1 hJ3 (by omega)
      · obtain ⟨x, hx, hx2, hxj, hd⟩ := h.2.2.2 B j hB0 hB1 hj hj2 hb (by omega)
        have g1 := @gF_le d A B i x
        exact close x hx hx2 (hJ2 x j hxj) (by omega)
    · by_cases hb : A = j
      · subst hb
        have g1 := @gF_le d A B i B
        exact close B hB0 hB1 hJ3.symm (by omega)
      · obtain ⟨x, hx, hx2, hxj, hd⟩ := h.2.2.2 A j hA0 hA1 hj hj2 hb (by omega)
        have g1 := @gF_le d A B i x
        exact close x hx hx2 (hJ2 x j hxj) (by omega)
/-- in place: any V between the new distances and the old ones gives the new one -/
theorem gF_in {n : Int} {a' b' : Int → Int} {d V : Int → Int → Int} {A B : Int} (h' : gM n a' b' (gF d A B)) (hJ : gJ n a' b' A B) (hA0 : 0 ≤ A) (hA1 : A < 12) (hB0 : 0 ≤ B) (hB1 : B < 12)
    (hlo : ∀ i j, 0 ≤ i → i < 12 → 0 ≤ j → j < 12 → gF d A B i j ≤ V i j) (hhi : ∀ i j, 0 ≤ i → i < 12 → 0 ≤ j → j < 12 → V i j ≤ d i j) {i j : Int} (hi : 0 ≤ i) (hi2 : i < 12) (hj : 0 ≤ j) (hj2 : j < 12) :
    min (V i j) (min (V i A + 1 + V B j) (V i B + 1 + V A j)) = gF d A B i j := by
  have t1 := gM_tri h' hi hi2 hA0 hA1 hj hj2
  have t2 := gM_tri h' hi hi2 hB0 hB1 hj hj2
  have e1 := h'.2.2.1 i B A hi hi2 hB0 hB1 hA0 hA1 hJ.symm
  have e2 := h'.2.2.1 i A B hi hi2 hA0 hA1 hB0 hB1 hJ
  have l1 := hlo i j hi hi2 hj hj2
  have l2 := hlo i A hi hi2 hA0 hA1
  have l3 := hlo i B hi hi2 hB0 hB1
  have l4 := hlo A j hA0 hA1 hj hj2
  have l5 := hlo B j hB0 hB1 hj hj2
  have u1 := hhi i j hi hi2 hj hj2
  have u2 := hhi i A hi hi2 hA0 hA1
  have u3 := hhi i B hi hi2 hB0 hB1
  have u4 := hhi A j hA0 hA1 hj hj2
  have u5 := hhi B j hB0 hB1 hj hj2
  have g2 := @gF_is d A B i j
  omega
/-- a distance below 1000 is at most 11: the rooms at 0, 1 .. from i are all different -/
theorem gM_hit {n : Int} {a b : Int → Int} {d : Int → Int → Int} (h : gM n a b d) {i : Int} (hi : 0 ≤ i) (hi2 : i < 12) : ∀ (v : Nat) (j : Int), 0 ≤ j → j < 12 → d i j = v → v < 1000 → ∀ w : Nat, w ≤ v → ∃ x, 0 ≤ x ∧ x < 12 ∧ d i x = w := by
  intro v
  induction v with
  | zero =>
    intro j hj hj2 hv _ w hw
    exact ⟨j, hj, hj2, by omega⟩
  | succ v ih =>
    intro j hj hj2 hv hlt w hw
    by_cases hwv : w = v + 1
    · exact ⟨j, hj, hj2, by omega⟩
    · have hij : i ≠ j := by
        intro e
        subst e
        have := h.1 i hi hi2
        omega
      obtain ⟨x, hx, hx2, -, hd⟩ := h.2.2.2 i j hi hi2 hj hj2 hij (by omega)
      exact ih x hx hx2 (by omega) (by omega) w (by omega)
theorem gPig : ∀ (N : Nat) (f : Int → Int), (∀ w : Nat, w ≤ N → ∃ x, 0 ≤ x ∧ x < (N : Int) ∧ f x = w) → False := by
  intro N
  induction N with
  | zero =>
    intro f h
    obtain ⟨x, h1, h2, -⟩ := h 0 (Nat.le_refl 0)
    omega
  | succ N ih =>
    intro f h
    -- the place N bears one value v; send it past: values above v come down by one
    refine ih (fun x => if f N < f x then f x - 1 else f x) (fun w hw => ?_)
    by_cases hv : (w : Int) < f N
    · obtain ⟨x, h1, h2, h3⟩ := h w (by omega)
      have hx : x ≠ N := by
        intro e
        subst e
        omega
      refine ⟨x, h1, by omega, ?_⟩
      rw [if_neg (by omega)]; exact h3
    · obtain ⟨x, h1, h2, h3⟩ := h (w + 1) (by omega)
      by_cases hx : x = N
      · subst hx
        obtain ⟨x2, q1, q2, q3⟩ := h w (by omega)
        refine ⟨x2, q1, ?_, ?_⟩
        · have : x2 ≠ N := by
            intro e
            subst e
            omega
          omega
        · rw [if_neg (by omega)]; exact q3
      · refine ⟨x, h1, by omega, ?_⟩
        rw [if_pos (by omega)]; omega
theorem gM_11 {n : Int} {a b : Int → Int} {d : Int → Int → Int} (h : gM n a b d) {i j : Int} (hi : 0 ≤ i) (hi2 : i < 12) (hj : 0 ≤ j) (hj2 : j < 12) (hlt : d i j < 1000) : d i j ≤ 11 := by
  by_cases hd : d i j ≤ 11
  · exact hd
  · exfalso
    have h0 := (h.2.1 i j hi hi2 hj hj2).1
    refine gPig 12 (fun x => d i x) (fun w hw => ?_)
    exact gM_hit h hi hi2 (d i j).toNat j hj hj2 (by omega) (by omega) w (by omega)
/-- no doors: 0 and 1000 -/
theorem gM_0 {a b : Int → Int} {d : Int → Int → Int} (h : ∀ i j, 0 ≤ i → i < 12 → 0 ≤ j → j < 12 → d i j = if i = j then 0 else 1000) : gM 0 a b d := by
  refine ⟨fun i hi hi2 => ?_, fun i j hi hi2 hj hj2 => ?_, fun i x y _ _ _ _ _ _ hJ => ?_, fun i j hi hi2 hj hj2 hij hlt => ?_⟩
  · rw [h i i hi hi2 hi hi2, if_pos rfl]
  · rw [h i j hi hi2 hj hj2]
    split <;> omega
  · obtain ⟨k, h1, h2, -⟩ := hJ
    omega
  · rw [h i j hi hi2 hj hj2, if_neg hij] at hlt
    omega
end
section
/-! shortenWays: in place, and yet the new distances -/
def shOK (d : Int → Int → Int) (A B : Int) (M : zM) : Prop := ∀ i j, 0 ≤ i → i < 12 → 0 ≤ j → j < 12 → gF d A B i j ≤ M 15 (i * 12 + j) ∧ M 15 (i * 12 + j) ≤ d i j
theorem xShI_k {M : zM} {A B i j : Int} {c : Nat} (h : c ≠ 15) : xShI M A B i j c = M c := zU_k h
theorem xShR_k {M : zM} {A B i : Int} {c : Nat} (h : c ≠ 15) : ∀ k, xShR M A B i k c = M c
  | 0 => rfl
  | k + 1 => (xShI_k h).trans (xShR_k h k)
theorem xShN_k {M : zM} {A B : Int} {c : Nat} (h : c ≠ 15) : ∀ k, xShN M A B k c = M c
  | 0 => rfl
  | k + 1 => (xShR_k h 12).trans (xShN_k h k)
theorem xShI_o {M : zM} {A B i j i' j' : Int} (hj : 0 ≤ j) (hj2 : j < 12) (hj' : 0 ≤ j') (hj2' : j' < 12) (h : ¬ (i' = i ∧ j' = j)) : xShI M A B i j 15 (i' * 12 + j') = M 15 (i' * 12 + j') := by
  unfold xShI
  exact zU_n (by omega)
theorem xShI_ok {n : Int} {a' b' : Int → Int} {d : Int → Int → Int} {M : zM} {A B : Int} (h' : gM n a' b' (gF d A B)) (hJ : gJ n a' b' A B) (hA0 : 0 ≤ A) (hA1 : A < 12) (hB0 : 0 ≤ B) (hB1 : B < 12) (h : shOK d A B M) {i j : Int} (hi : 0 ≤ i) (hi2 : i < 12) (hj : 0 ≤ j) (hj2 : j < 12) :
    xShI M A B i j 15 (i * 12 + j) = gF d A B i j ∧ shOK d A B (xShI M A B i j) := by
  have e : xShI M A B i j 15 (i * 12 + j) = gF d A B i j := by
    unfold xShI
    rw [zU_s]
    exact gF_in (V := fun i j => M 15 (i * 12 + j)) h' hJ hA0 hA1 hB0 hB1 (fun x y h1 h2 h3 h4 => (h x y h1 h2 h3 h4).1) (fun x y h1 h2 h3 h4 => (h x y h1 h2 h3 h4).2) hi hi2 hj hj2
  refine ⟨e, fun x y h1 h2 h3 h4 => ?_⟩
  by_cases hxy : x = i ∧ y = j
  · obtain ⟨rfl, rfl⟩ := hxy
    rw [e]
    have := @gF_le d A B x y
    omega
  · rw [xShI_o hj hj2 h3 h4 hxy]
    exact h x y h1 h2 h3 h4
theorem xShR_ok {n : Int} {a' b' : Int → Int} {d : Int → Int → Int} {M : zM} {A B : Int} (h' : gM n a' b' (gF d A B)) (hJ : gJ n a' b' A B) (hA0 : 0 ≤ A) (hA1 : A < 12) (hB0 : 0 ≤ B) (hB1 : B < 12) (h : shOK d A B M) {i : Int} (hi : 0 ≤ i) (hi2 : i < 12) : ∀ k : Nat, k ≤ 12 →
    shOK d A B (xShR M A B i k) ∧ (∀ j, 0 ≤ j → j < (k : Int) → xShR M A B i k 15 (i * 12 + j) = gF d A B i j) ∧ ∀ x y, x ≠ i → 0 ≤ y → y < 12 → xShR M A B i k 15 (x * 12 + y) = M 15 (x * 12 + y)
  | 0, _ => ⟨h, fun j h1 h2 => absurd h2 (by omega), fun _ _ _ _ _ => rfl⟩
  | k + 1, hk => by
    obtain ⟨i1, i2, i3⟩ := xShR_ok h' hJ hA0 hA1 hB0 hB1 h hi hi2 k (by omega)
    obtain ⟨e1, e2⟩ := xShI_ok h' hJ hA0 hA1 hB0 hB1 i1 hi hi2 (j := (k : Int)) (by omega) (by omega)
    refine ⟨e2, fun j h1 h2 => ?_, fun x y hx hy hy2 => ?_⟩
    · by_cases hjk : j = (k : Int)
      · rw [hjk]; exact e1
      · have : xShR M A B i (k + 1) 15 (i * 12 + j) = xShR M A B i k 15 (i * 12 + j) := xShI_o (by omega) (by omega) h1 (by omega) (by omega)
        rw [this]
        exact i2 j h1 (by omega)
    · have : xShR M A B i (k + 1) 15 (x * 12 + y) = xShR M A B i k 15 (x * 12 + y) := xShI_o (by omega) (by omega) hy hy2 (by omega)
      rw [this]
      exact i3 x y hx hy hy2
theorem xShN_ok {n : Int} {a' b' : Int → Int} {d : Int → Int → Int} {M : zM} {A B : Int} (h' : gM n a' b' (gF d A B)) (hJ : gJ n a' b' A B) (hA0 : 0 ≤ A) (hA1 : A < 12) (hB0 : 0 ≤ B) (hB1 : B < 12) (h : shOK d A B M) : ∀ k : Nat, k ≤ 12 →
    shOK d A B (xShN M A B k) ∧ ∀ i j, 0 ≤ i → i < (k : Int) → 0 ≤ j → j < 12 → xShN M A B k 15 (i * 12 + j) = gF d A B i j
  | 0, _ => ⟨h, fun i j h1 h2 => absurd h2 (by omega)⟩
  | k + 1, hk => by
    obtain ⟨i1, i2⟩ := xShN_ok h' hJ hA0 hA1 hB0 hB1 h k (by omega)
    obtain ⟨e1, e2, e3⟩ := xShR_ok h' hJ hA0 hA1 hB0 hB1 i1 (i := (k : Int)) (by omega) (by omega) 12 (Nat.le_refl 12)
    refine ⟨e1, fun i j hi hi2 hj hj2 => ?_⟩
    by_cases hik : i = (k : Int)
    · rw [hik]; exact e2 j hj hj2
    · have : xShN M A B (k + 1) 15 (i * 12 + j) = xShN M A B k 15 (i * 12 + j) := e3 i j hik hj hj2
      rw [this]
      exact i2 i j hi (by omega) hj hj2
/-- the distances behind a new door -/
theorem xShN_gM {M : zM} {n : Int} {a b a' b' : Int → Int} {A B : Int} (h : gM n a b (fun i j => M 15 (i * 12 + j))) (hn : 0 ≤ n) (ha : ∀ k, 0 ≤ k → k < n → a' k = a k ∧ b' k = b k) (hA : a' n = A) (hB : b' n = B) (hA0 : 0 ≤ A) (hA1 : A < 12) (hB0 : 0 ≤ B) (hB1 : B < 12) : gM (n + 1) a' b' (fun i j => xShN M A B 12 15 (i * 12 + j)) := by
  have h' := gM_add h hn ha hA hB hA0 hA1 hB0 hB1
  have hJ : gJ (n + 1) a' b' A B := ⟨n, hn, by omega, Or.inl ⟨hA, hB⟩⟩
  have h0 : shOK (fun i j => M 15 (i * 12 + j)) A B M := fun i j _ _ _ _ => ⟨gF_le.1, Int.le_refl _⟩
  obtain ⟨-, e⟩ := xShN_ok h' hJ hA0 hA1 hB0 hB1 h0 12 (Nat.le_refl 12)
  refine ⟨fun i hi hi2 => ?_, fun i j hi hi2 hj hj2 => ?_, fun i x y hi hi2 hx hx2 hy hy2 q => ?_, fun i j hi hi2 hj hj2 hij hlt => ?_⟩
  · show xShN M A B 12 15 (i * 12 + i) = 0
    rw [e i i hi hi2 hi hi2]; exact h'.1 i hi hi2
  · show 0 ≤ xShN M A B 12 15 (i * 12 + j) ∧ xShN M A B 12 15 (i * 12 + j) ≤ 1000
    rw [e i j hi hi2 hj hj2]; exact h'.2.1 i j hi hi2 hj hj2
  · show xShN M A B 12 15 (i * 12 + x) ≤ xShN M A B 12 15 (i * 12 + y) + 1
    rw [e i x hi hi2 hx hx2, e i y hi hi2 hy hy2]; exact h'.2.2.1 i x y hi hi2 hx hx2 hy hy2 q
  · have hlt : xShN M A B 12 15 (i * 12 + j) < 1000 := hlt
    rw [e i j hi hi2 hj hj2] at hlt
    obtain ⟨x, hx, hx2, hxj, hd⟩ := h'.2.2.2 i j hi hi2 hj hj2 hij hlt
    refine ⟨x, hx, hx2, hxj, ?_⟩
    show xShN M A B 12 15 (i * 12 + x) + 1 = xShN M A B 12 15 (i * 12 + j)
    rw [e i x hi hi2 hx hx2, e i j hi hi2 hj hj2]; exact hd
end
section
/-! What always holds of the object's memory, as far as the walks need it -/
def xOK (M : zM) : Prop :=
  (0 ≤ M 1 0 ∧ M 1 0 ≤ 12) ∧ (0 ≤ M 2 0 ∧ M 2 0 ≤ 16) ∧ (0 ≤ M 4 1 ∧ M 4 1 ≤ 60) ∧ (0 ≤ M 0 4 ∧ M 0 4 ≤ 2000) ∧
  (∀ d, 0 ≤ d → d < M 2 0 → (0 ≤ M 9 d ∧ M 9 d < 12) ∧ 0 ≤ M 10 d ∧ M 10 d < 12) ∧
  (∀ x, 0 ≤ x → x < 144 → 0 ≤ M 15 x ∧ M 15 x ≤ 1000) ∧
  (∀ p, 0 ≤ p → p < 60 → 0 ≤ M 16 p ∧ M 16 p ≤ 46) ∧
  (∀ x, 0 ≤ x → x < 2760 → -1 ≤ M 18 x ∧ M 18 x < 12) ∧
  (∀ p, 0 ≤ p → p < 60 → (0 ≤ M 20 p ∧ M 20 p < 12) ∧ 0 ≤ M 23 p ∧ M 23 p < 12) ∧
  (∀ p, 0 ≤ p → p < M 4 1 → 0 ≤ M 19 p ∧ M 19 p ≤ 1439)
/-- xOK looks at these cells alone -/
theorem xOK.of {M M' : zM} (h : xOK M) (h1 : M' 1 0 = M 1 0) (h2 : M' 2 0 = M 2 0) (h4 : M' 4 1 = M 4 1) (h0 : M' 0 4 = M 0 4) (h9 : M' 9 = M 9) (h10 : M' 10 = M 10) (h15 : M' 15 = M 15) (h20 : M' 20 = M 20) (h23 : M' 23 = M 23) (h19 : M' 19 = M 19)
    (h16 : ∀ p, 0 ≤ p → p < 60 → 0 ≤ M' 16 p ∧ M' 16 p ≤ 46) (h18 : ∀ x, 0 ≤ x → x < 2760 → -1 ≤ M' 18 x ∧ M' 18 x < 12) : xOK M' := by
  obtain ⟨a1, a2, a3, a4, a5, a6, a7, a8, a9, a10⟩ := h
  refine ⟨by rw [h1]; exact a1, by rw [h2]; exact a2, by rw [h4]; exact a3, by rw [h0]; exact a4, ?_, ?_, h16, h18, ?_, ?_⟩
  · rw [h2, h9, h10]; exact a5
  · rw [h15]; exact a6
  · rw [h20, h23]; exact a9
  · rw [h4, h19]; exact a10
theorem xFill_c {M : zM} {k n : Nat} {v : Int} {c : Nat} (h : c ≠ k) : xFill M k n v c = M c := by
  funext i
  simp [xFill, h]
theorem xFill_ok {M : zM} (h : xOK M) : xOK (xFill M 14 16 0) :=
  h.of rfl rfl rfl rfl (xFill_c (by decide)) (xFill_c (by decide)) (xFill_c (by decide)) (xFill_c (by decide)) (xFill_c (by decide)) (xFill_c (by decide)) (by rw [xFill_c (by decide)]; exact h.2.2.2.2.2.2.1) (by rw [xFill_c (by decide)]; exact h.2.2.2.2.2.2.2.1)
theorem xNow_ok {M : zM} (h : xOK M) {p : Int} (h0 : 0 ≤ p) (h1 : p < 60) : -1 ≤ xNow M p ∧ xNow M p < 12 := by
  have a := h.2.2.2.2.2.2.1 p h0 h1
  unfold xNow
  split
  · omega
  · exact h.2.2.2.2.2.2.2.1 _ (by omega) (by omega)
theorem xTrailAdd_c {M : zM} {p t r : Int} {c : Nat} (h6 : c ≠ 16) (h7 : c ≠ 17) (h8 : c ≠ 18) : xTrailAdd M p t r c = M c := by
  unfold xTrailAdd
  split
  · rfl
  · rw [zU_k h6, zU_k h8, zU_k h7]
theorem xTrailAdd_16 {M : zM} {p t r : Int} (h : ∀ p, 0 ≤ p → p < 60 → 0 ≤ M 16 p ∧ M 16 p ≤ 46) (h0 : 0 ≤ p) (h1 : p < 60) : ∀ q, 0 ≤ q → q < 60 → 0 ≤ xTrailAdd M p t r 16 q ∧ xTrailAdd M p t r 16 q ≤ 46 := by
  intro q hq hq2
  have a := h q hq hq2
  unfold xTrailAdd
  split
  · exact a
  · by_cases e : q = p
    · subst e
      rw [zU_s]; omega
    · rw [zU_n e, zU_k (by decide), zU_k (by decide)]; exact a
theorem xTrailAdd_18 {M : zM} {p t r : Int} (h : ∀ x, 0 ≤ x → x < 2760 → -1 ≤ M 18 x ∧ M 18 x < 12) (hr : -1 ≤ r ∧ r < 12) : ∀ x, 0 ≤ x → x < 2760 → -1 ≤ xTrailAdd M p t r 18 x ∧ xTrailAdd M p t r 18 x < 12 := by
  intro x hx hx2
  have a := h x hx hx2
  unfold xTrailAdd
  split
  · exact a
  · rw [zU_k (by decide)]
    by_cases e : x = p * 46 + M 16 p
    · rw [← e, zU_s]; exact hr
    · rw [zU_n e, zU_k (by decide)]; exact a
/-- the cells that a person's step leaves alone -/
theorem xEntr_c {M : zM} {p : Int} {c : Nat} (h0 : c ≠ 0) (h1 : c ≠ 6) (h2 : c ≠ 16) (h3 : c ≠ 17) (h4 : c ≠ 18) (h5 : c ≠ 25) : xEntr M p c = M c := by
  unfold xEntr
  split
  · rw [xTrailAdd_c h2 h3 h4, zU_k h0, zU_k h1]
  · rw [zU_k h5]
theorem xOut_c {M : zM} {p : Int} {c : Nat} (h0 : c ≠ 0) (h1 : c ≠ 6) (h2 : c ≠ 16) (h3 : c ≠ 17) (h4 : c ≠ 18) : xOut M p c = M c := by
  unfold xOut
  rw [xTrailAdd_c h2 h3 h4, zU_k h0, zU_k h1]
theorem xDoorTo_c {M : zM} {p h d r : Int} {c : Nat} (h1 : c ≠ 6) (h2 : c ≠ 16) (h3 : c ≠ 17) (h4 : c ≠ 18) (h5 : c ≠ 12) (h6 : c ≠ 13) (h7 : c ≠ 14) : xDoorTo M p h d r c = M c := by
  unfold xDoorTo
  rw [xTrailAdd_c h2 h3 h4, zU_k h1, zU_k h1, xPass_c h5 h6 h7]
theorem xTryDoor_c {M : zM} {p h g : Int} {c : Nat} (h1 : c ≠ 6) (h2 : c ≠ 16) (h3 : c ≠ 17) (h4 : c ≠ 18) (h5 : c ≠ 12) (h6 : c ≠ 13) (h7 : c ≠ 14) (h8 : c ≠ 25) : xTryDoor M p h g c = M c := by
  unfold xTryDoor
  split
  · rfl
  · split
    · exact xDoorTo_c h1 h2 h3 h4 h5 h6 h7
    · rw [zU_k h8]
theorem xStep_c {M : zM} {p : Int} {c : Nat} (h0 : c ≠ 0) (h1 : c ≠ 6) (h2 : c ≠ 16) (h3 : c ≠ 17) (h4 : c ≠ 18) (h5 : c ≠ 12) (h6 : c ≠ 13) (h7 : c ≠ 14) (h8 : c ≠ 25) : xStep M p c = M c := by
  unfold xStep
  repeat' split
  · rfl
  · exact xEntr_c h0 h1 h2 h3 h4 h8
  · exact xTryDoor_c h1 h2 h3 h4 h5 h6 h7 h8
  · exact xTryDoor_c h1 h2 h3 h4 h5 h6 h7 h8
  · exact xOut_c h0 h1 h2 h3 h4
theorem xStep_04 {M : zM} {p : Int} : xStep M p 0 4 = M 0 4 := by
  unfold xStep
  repeat' split
  · rfl
  · unfold xEntr
    split
    · rw [xTrailAdd_c (by decide) (by decide) (by decide), zU_n (by decide), zU_k (by decide)]
    · rw [zU_k (by decide)]
  · rw [xTryDoor_c (by decide) (by decide) (by decide) (by decide) (by decide) (by decide) (by decide) (by decide)]
  · rw [xTryDoor_c (by decide) (by decide) (by decide) (by decide) (by decide) (by decide) (by decide) (by decide)]
  · unfold xOut
    rw [xTrailAdd_c (by decide) (by decide) (by decide), zU_n (by decide), zU_k (by decide)]
theorem xOK.step {M : zM} (h : xOK M) {p : Int} (h0 : 0 ≤ p) (h1 : p < 60) : xOK (xStep M p) := by
  have a2 := h.2.1
  have a5 := h.2.2.2.2.1
  have a7 := h.2.2.2.2.2.2.1
  have a8 := h.2.2.2.2.2.2.2.1
  have td : ∀ hh g, (∀ q, 0 ≤ q → q < 60 → 0 ≤ xTryDoor M p hh g 16 q ∧ xTryDoor M p hh g 16 q ≤ 46) ∧ ∀ x, 0 ≤ x → x < 2760 → -1 ≤ xTryDoor M p hh g 18 x ∧ xTryDoor M p hh g 18 x < 12 := by
    intro hh g
    unfold xTryDoor
    split
    · exact ⟨a7, a8⟩
    · split
      · rename_i hr _
        have e8 := xNext_rg (h := hh) (g := g) a2.1 a5
        unfold xDoorTo
        refine ⟨xTrailAdd_16 ?_ h0 h1, xTrailAdd_18 ?_ (by omega)⟩
        · rw [zU_k (by decide), zU_k (by decide), xPass_c (by decide) (by decide) (by decide)]; exact a7
        · rw [zU_k (by decide), zU_k (by decide), xPass_c (by decide) (by decide) (by decide)]; exact a8
      · rw [zU_k (by decide), zU_k (by decide)]; exact ⟨a7, a8⟩
  have m : (∀ q, 0 ≤ q → q < 60 → 0 ≤ xStep M p 16 q ∧ xStep M p 16 q ≤ 46) ∧ ∀ x, 0 ≤ x → x < 2760 → -1 ≤ xStep M p 18 x ∧ xStep M p 18 x < 12 := by
    unfold xStep
    repeat' split
    · exact ⟨a7, a8⟩
    · unfold xEntr
      split
      · refine ⟨xTrailAdd_16 ?_ h0 h1, xTrailAdd_18 ?_ (by omega)⟩
        · rw [zU_k (by decide), zU_k (by decide)]; exact a7
        · rw [zU_k (by decide), zU_k (by decide)]; exact a8
      · rw [zU_k (by decide), zU_k (by decide)]; exact ⟨a7, a8⟩
    · exact td _ _
    · exact td _ _
    · unfold xOut
      refine ⟨xTrailAdd_16 ?_ h0 h1, xTrailAdd_18 ?_ (by omega)⟩
      · rw [zU_k (by decide), zU_k (by decide)]; exact a7
      · rw [zU_k (by decide), zU_k (by decide)]; exact a8
  have k : ∀ c, c ≠ 0 → c ≠ 6 → c ≠ 16 → c ≠ 17 → c ≠ 18 → c ≠ 12 → c ≠ 13 → c ≠ 14 → c ≠ 25 → xStep M p c = M c := fun c => xStep_c
  exact h.of (by rw [k 1 (by decide) (by decide) (by decide) (by decide) (by decide) (by decide) (by decide) (by decide) (by decide)]) (by rw [k 2 (by decide) (by decide) (by decide) (by decide) (by decide) (by decide) (by decide) (by decide) (by decide)]) (by rw [k 4 (by decide) (by decide) (by decide) (by decide) (by decide) (by decide) (by decide) (by decide) (by decide)]) xStep_04
    (k 9 (by decide) (by decide) (by decide) (by decide) (by decide) (by decide) (by decide) (by decide) (by decide)) (k 10 (by decide) (by decide) (by decide) (by decide) (by decide) (by decide) (by decide) (by decide) (by decide)) (k 15 (by decide) (by decide) (by decide) (by decide) (by decide) (by decide) (by decide) (by decide) (by decide)) (k 20 (by decide) (by decide) (by decide) (by decide) (by decide) (by decide) (by decide) (by decide) (by decide)) (k 23 (by decide) (by decide) (by decide) (by decide) (by decide) (by decide) (by decide) (by decide) (by decide)) (k 19 (by decide) (by decide) (by decide) (by decide) (by decide) (by decide) (by decide) (by decide) (by decide)) m.1 m.2
theorem xStepN_stop {M : zM} {k : Nat} (h : ¬ ((k : Int) < M 4 1 ∧ M 19 (k : Int) ≤ M 0 4)) : xStepN ((M 4 1).toNat - k) k M = M := by
  by_cases hk : (k : Int) < M 4 1
  · rw [show (M 4 1).toNat - k = ((M 4 1).toNat - (k + 1)) + 1 by omega, xStepN, if_neg (fun q => h ⟨hk, q⟩)]
  · rw [show (M 4 1).toNat - k = 0 by omega, xStepN]
theorem xMin_s {M Mq : zM} {k : Nat} (h : (k : Int) ≤ 60 ∧ xOK Mq ∧ Mq 0 4 < 2000 ∧ xStepN (M 4 1).toNat 0 (xFill M 14 16 0) = xStepN ((Mq 4 1).toNat - k) k Mq) (h1 : (k : Int) < Mq 4 1) (h2 : Mq 19 (k : Int) ≤ Mq 0 4) :
    ((k + 1 : Nat) : Int) ≤ 60 ∧ xOK (xStep Mq k) ∧ xStep Mq k 0 4 < 2000 ∧ xStepN (M 4 1).toNat 0 (xFill M 14 16 0) = xStepN ((xStep Mq k 4 1).toNat - (k + 1)) ((k + 1 : Nat) : Int) (xStep Mq k) := by
  have b := h.2.1.2.2.1
  refine ⟨by omega, h.2.1.step (by omega) (by omega), by rw [xStep_04]; exact h.2.2.1, ?_⟩
  have e : xStep Mq k 4 1 = Mq 4 1 := by rw [xStep_c (by decide) (by decide) (by decide) (by decide) (by decide) (by decide) (by decide) (by decide) (by decide)]
  rw [h.2.2.2, e, show (Mq 4 1).toNat - k = ((Mq 4 1).toNat - (k + 1)) + 1 by omega, xStepN, if_pos h2]
  rfl
end
section
/-! more of the model: arrivals, fill -/
theorem xShiftN_s {t n q : Int} {M : zM} (hq : 0 < q) (h : t < M 19 (q - 1)) : xShiftN t n q.toNat M = xShiftN t n (q + (-1)).toNat (zU M 19 (q + (-1) + n) (M 19 (q + (-1)))) := by
  rw [show q.toNat = (q + (-1)).toNat + 1 by omega, xShiftN, show (((q + (-1)).toNat : Nat) : Int) = q + (-1) by omega, if_pos (by rw [show q + (-1) = q - 1 by omega]; exact h)]
theorem xShiftN_e {t n q : Int} {M : zM} (hq : 0 ≤ q) (h : q ≤ 0 ∨ M 19 (q - 1) ≤ t) : xShiftN t n q.toNat M = (q.toNat, M) := by
  by_cases h0 : q ≤ 0
  · rw [show q.toNat = 0 by omega, xShiftN]
  · rw [show q.toNat = (q - 1).toNat + 1 by omega, xShiftN, show (((q - 1).toNat : Nat) : Int) = q - 1 by omega, if_neg (by omega)]
theorem xPutN_c {M : zM} {t q : Int} {c : Nat} (h : c ≠ 19) : ∀ k, xPutN M t q k c = M c
  | 0 => rfl
  | k + 1 => (zU_k h).trans (xPutN_c h k)
theorem xFill_0 {M : zM} {k : Nat} {v : Int} : xFill M k 0 v = M := by
  funext c i
  unfold xFill
  rw [if_neg (by omega)]
theorem xFill_s {M : zM} {k i : Nat} {v : Int} : zU (xFill M k i v) k (i : Int) v = xFill M k (i + 1) v := by
  funext c j
  unfold zU xFill
  by_cases hc : c = k
  · by_cases hj : j = (i : Int)
    · rw [if_pos ⟨hc, hj⟩, if_pos ⟨hc, by omega, by omega⟩]
    · rw [if_neg (fun h => hj h.2)]
      by_cases h2 : 0 ≤ j ∧ j < (i : Int)
      · rw [if_pos ⟨hc, h2⟩, if_pos ⟨hc, by omega, by omega⟩]
      · rw [if_neg (fun h => h2 h.2), if_neg (fun h => h2 ⟨h.2.1, by omega⟩)]
  · rw [if_neg (fun h => hc h.1), if_neg (fun h => hc h.1), if_neg (fun h => hc h.1)]
set_option maxHeartbeats 4000000 in
set_option maxRecDepth 100000 in
/-- Arrays.fill of an int array of the row -/
theorem k_fill (l : Launch) (D : va_G) (L : List zC) (ad : Nat → Nat) (cI : Nat → ClassId) (M : zM) (k n : Nat) (v : Int) (hk : L[k]? = some (.inr (0, n))) (hn : n < 2147483647) (hv : -2147483648 ≤ v ∧ v ≤ 2147483647) : zMv l y_Ar_fill (.code y_Ar_fill c_Ar_fill 4 (none)) { frames := 0, cells := 0, slots := 0, locals := 0 } D L ad cI M [.ref (ad k), .int (zI v)] (fun u => u = xFill M k n v) := by
  refine z_of (cc := c_Ar_fill) (maxL := 4) (ret := none) (own := "java/util/Arrays") (by decide) rfl rfl (Nat.le_of_ble_eq_true rfl) ?_
  intro p e s m below meth c ls hF hr hX hK hl
  obtain ⟨hx, hb, hml, hown, hlk⟩ := id hF
  have hS : va_S (zA ad L) s.heap s.heap [] := va_S.rf
  have hl : lv_has ls 4 [(0, .ref (ad k)), (1, .int (zI v))] := hl
  refine z_const hx hb d_Ar_fill_0 ?_
  refine lv_istore_n (lv' := [(2, .int (zI 0)), (0, .ref (ad k)), (1, .int (zI v))]) hx hb d_Ar_fill_1 rfl hl (by decide) rfl (fun ls hl => ?_)
  refine lv_aload_n hx hb d_Ar_fill_2 rfl (lv_at hl 1 rfl) ?_
  refine z_alen hx hb hK hX k hk d_Ar_fill_3 ?_
  refine lv_istore_n (lv' := [(3, .int (zI (n : Int))), (2, .int (zI 0)), (0, .ref (ad k)), (1, .int (zI v))]) hx hb d_Ar_fill_4 rfl hl (by decide) rfl (fun ls hl => ?_)
  have loop5 : ∀ (n5 : Nat) (i : Nat) (H : Heap) (locs : List Loc) (ls : Array Slot), i ≤ n → n - i < n5 → zX D L ad cI (xFill M k i v) H → va_S (zA ad L) s.heap H locs → lv_has ls 4 [(2, .int (zI (i : Int))), (3, .int (zI (n : Int))), (0, .ref (ad k)), (1, .int (zI v))] → W p l e { frames := 0, cells := 0, slots := 0, locals := 0 } s m ([.ref (ad k), .int (zI v)] : List Value).toArray below meth c H locs 0 0 (MQ below (zQv D L ad cI (fun u => u = xFill M k n v)) ([.ref (ad k), .int (zI v)] : List Value).toArray s 0 0 (zA ad L)) (F0 m 5 ls []) := by
    intro n5
    induction n5 with
    | zero => intro i H locs ls hI hn; exact absurd hn (Nat.not_lt_zero _)
    | succ n5 ih5 =>
      intro i H locs ls hI5 hn5 hX hS hl
      refine lv_iload_n hx hb d_Ar_fill_5 rfl (lv_at hl 0 rfl) ?_
      refine lv_iload_n hx hb d_Ar_fill_6 rfl (lv_at hl 1 rfl) ?_
      refine z_icmp_ge (a := (i : Int)) (b := (n : Int)) (tgt := 20) hx hb d_Ar_fill_7 (by decide) (by omega) (fun hb_2 => ?_) (fun hb_3 => ?_)
      · exact z_vret (post := fun u => u = xFill M k n v) hx hb hr hlk hK hX hS (by rw [show i = n by omega]) d_Ar_fill_20
      · refine lv_aload_n hx hb d_Ar_fill_10 rfl (lv_at hl 2 rfl) ?_
        refine lv_iload_n hx hb d_Ar_fill_11 rfl (lv_at hl 0 rfl) ?_
        refine lv_iload_n hx hb d_Ar_fill_12 rfl (lv_at hl 3 rfl) ?_
        refine z_iast (i := (i : Int)) (v := v) hx hb hK hX hS k hk (by omega) (by omega) hv d_Ar_fill_13 (fun H locs hX hS => ?_)
        refine z_iinc (lv' := [(2, .int (zI ((i : Int) + 1))), (3, .int (zI (n : Int))), (0, .ref (ad k)), (1, .int (zI v))]) hx hb d_Ar_fill_14 hl (k := 0) rfl (by decide) rfl (fun ls hl => ?_)
        refine lv_goto (tgt := 5) hx hb d_Ar_fill_17 (by decide) ?_
        exact ih5 (i + 1) _ _ _ (by omega) (by omega) (by rw [← xFill_s]; exact hX) hS (lv_sub hl [0, 1, 2, 3] rfl)
  exact loop5 _ 0 _ _ _ (Nat.zero_le n) (Nat.lt_succ_self _) (by rw [xFill_0]; exact hX) hS (lv_sub hl [1, 0, 2, 3] rfl)
end
section
set_option maxHeartbeats 4000000 in
set_option maxRecDepth 100000 in
theorem k_Ro_hasSpace (l : Launch) (D : va_G) (ad : Nat → Nat) (cI : Nat → ClassId) (sd : Int64) (M : zM) (n : Int) (h1 : 0 ≤ n ∧ n < 12) : zMi l y_Ro_hasSpace (.code y_Ro_hasSpace c_Ro_hasSpace 2 (some .boolean)) { frames := 0, cells := 0, slots := 0, locals := 0 } D (xL sd) ad cI M [.ref (ad 1), .int (zI (n))] (fun z u => z = (if M 6 n < M 5 n then 1 else 0) ∧ u = M) := by
  refine z_of (cc := c_Ro_hasSpace) (maxL := 2) (ret := some .boolean) (own := "PersonSeeds$Rooms") (by decide) rfl rfl (Nat.le_of_ble_eq_true rfl) ?_
  intro p e s m below meth c ls hF hr hX hK hl
  obtain ⟨hx, hb, hml, hown, hlk⟩ := id hF
  have hS : va_S (zA ad (xL sd)) s.heap s.heap [] := va_S.rf
  have hl : lv_has ls 2 [(0, .ref (ad 1)), (1, .int (zI (n)))] := hl
  refine lv_aload_n hx hb d_Ro_hasSpace_0 rfl (lv_at hl 0 rfl) ?_
  refine z_getr hx hb iw_Ro hown hK hX 1 rfl rfl 2 (by decide) tw_31 (fun _ h => h) 6 rfl d_Ro_hasSpace_1 ?_
  refine lv_iload_n hx hb d_Ro_hasSpace_4 rfl (lv_at hl 1 rfl) ?_
  refine z_iald (i := n) (v := M 6 n) hx hb hK hX 6 rfl (by omega) (by decide) rfl d_Ro_hasSpace_5 (fun rg_1 => ?_)
  refine lv_aload_n hx hb d_Ro_hasSpace_6 rfl (lv_at hl 0 rfl) ?_
  refine z_getr hx hb iw_Ro hown hK hX 1 rfl rfl 1 (by decide) tw_30 (fun _ h => h) 5 rfl d_Ro_hasSpace_7 ?_
  refine lv_iload_n hx hb d_Ro_hasSpace_10 rfl (lv_at hl 1 rfl) ?_
  refine z_iald (i := n) (v := M 5 n) hx hb hK hX 5 rfl (by omega) (by decide) rfl d_Ro_hasSpace_11 (fun rg_2 => ?_)
  refine z_icmp_ge (a := M 6 n) (b := M 5 n) (tgt := 19) hx hb d_Ro_hasSpace_12 (by decide) (by omega) (fun hb_3 => ?_) (fun hb_4 => ?_)
  · skip
    refine z_const hx hb d_Ro_hasSpace_19 ?_
    exact z_zret (z := 0) (post := fun z u => z = (if M 6 n < M 5 n then 1 else 0) ∧ u = M) hx hb hr hlk hK hX hS (by omega) ⟨by first | rfl | omega | (split <;> omega) | (repeat' split) <;> first | rfl | omega | simp_all, rfl⟩ d_Ro_hasSpace_20
  · skip
    refine z_const hx hb d_Ro_hasSpace_15 ?_
    refine lv_goto (tgt := 20) hx hb d_Ro_hasSpace_16 (by decide) ?_
    exact z_zret (z := 1) (post := fun z u => z = (if M 6 n < M 5 n then 1 else 0) ∧ u = M) hx hb hr hlk hK hX hS (by omega) ⟨by first | rfl | omega | (split <;> omega) | (repeat' split) <;> first | rfl | omega | simp_all, rfl⟩ d_Ro_hasSpace_20
set_option maxHeartbeats 4000000 in
set_option maxRecDepth 100000 in
theorem k_Ro_add (l : Launch) (D : va_G) (ad : Nat → Nat) (cI : Nat → ClassId) (sd : Int64) (M : zM) (v : Int) (h1 : 0 ≤ M 1 0 ∧ M 1 0 < 12) (h2 : -2147483648 ≤ v ∧ v ≤ 2147483647) : zMi l y_Ro_add (.code y_Ro_add c_Ro_add 2 (some .int)) { frames := 0, cells := 0, slots := 0, locals := 0 } D (xL sd) ad cI M [.ref (ad 1), .int (zI (v))] (fun z u => z = (M 1 0) ∧ u = xRoomsAdd M v) := by
  refine z_of (cc := c_Ro_add) (maxL := 2) (ret := some .int) (own := "PersonSeeds$Rooms") (by decide) rfl rfl (Nat.le_of_ble_eq_true rfl) ?_
  intro p e s m below meth c ls hF hr hX hK hl
  obtain ⟨hx, hb, hml, hown, hlk⟩ := id hF
  have hS : va_S (zA ad (xL sd)) s.heap s.heap [] := va_S.rf
  have hl : lv_has ls 2 [(0, .ref (ad 1)), (1, .int (zI (v)))] := hl
  refine lv_aload_n hx hb d_Ro_add_0 rfl (lv_at hl 0 rfl) ?_
  refine z_getr hx hb iw_Ro hown hK hX 1 rfl rfl 1 (by decide) tw_30 (fun _ h => h) 5 rfl d_Ro_add_1 ?_
  refine lv_aload_n hx hb d_Ro_add_4 rfl (lv_at hl 0 rfl) ?_
  refine z_geti (i := 0) (v := M 1 0) hx hb iw_Ro hown hK hX 1 rfl rfl 0 (by decide) tw_28 (fun _ h => h) rfl rfl rfl d_Ro_add_5 (fun rg_1 => ?_)
  refine lv_iload_n hx hb d_Ro_add_8 rfl (lv_at hl 1 rfl) ?_
  refine z_iast (i := M 1 0) (v := v) hx hb hK hX hS 5 rfl (by omega) (by decide) (by omega) d_Ro_add_9 (fun H locs hX hS => ?_)
  refine lv_aload_n hx hb d_Ro_add_10 rfl (lv_at hl 0 rfl) ?_
  refine lv_dup hx hb d_Ro_add_11 rfl ?_
  refine z_geti (i := 0) (v := M 1 0) hx hb iw_Ro hown hK hX 1 rfl rfl 0 (by decide) tw_28 (fun _ h => h) rfl rfl rfl d_Ro_add_12 (fun rg_2 => ?_)
  refine z_const hx hb d_Ro_add_15 ?_
  refine z_iadd hx hb d_Ro_add_16 ?_
  refine z_puti (i := 0) (v := (M 1 0) + 1) hx hb iw_Ro ty_Ro tyo_Ro n_Ro hown hK hX hS 1 rfl rfl 0 (by decide) tw_28 (fun _ h => h) rfl (by decide +kernel) rfl rfl (by omega) d_Ro_add_17 (fun H locs hX hS => ?_)
  refine lv_aload_n hx hb d_Ro_add_20 rfl (lv_at hl 0 rfl) ?_
  refine z_geti (i := 0) (v := (M 1 0) + 1) hx hb iw_Ro hown hK hX 1 rfl rfl 0 (by decide) tw_28 (fun _ h => h) rfl rfl (by simp [zU]) d_Ro_add_21 (fun rg_3 => ?_)
  refine z_const hx hb d_Ro_add_24 ?_
  refine z_isub hx hb d_Ro_add_25 ?_
  exact z_iret (z := ((M 1 0) + 1) - 1) (post := fun z u => z = (M 1 0) ∧ u = xRoomsAdd M v) hx hb hr hlk hK hX hS (by omega) ⟨by first | rfl | omega | (split <;> omega) | (repeat' split) <;> first | rfl | omega | simp_all, rfl⟩ d_Ro_add_26
set_option maxHeartbeats 4000000 in
set_option maxRecDepth 100000 in
theorem k_Do_steps (l : Launch) (D : va_G) (ad : Nat → Nat) (cI : Nat → ClassId) (sd : Int64) (M : zM) (a b : Int) (h1 : 0 ≤ a ∧ a < 12) (h2 : 0 ≤ b ∧ b < 12) : zMi l y_Do_stepsBetween (.code y_Do_stepsBetween c_Do_stepsBetween 3 (some .int)) { frames := 0, cells := 0, slots := 0, locals := 0 } D (xL sd) ad cI M [.ref (ad 2), .int (zI (a)), .int (zI (b))] (fun z u => z = (M 15 (a * 12 + b)) ∧ u = M) := by
  refine z_of (cc := c_Do_stepsBetween) (maxL := 3) (ret := some .int) (own := "PersonSeeds$Doors") (by decide) rfl rfl (Nat.le_of_ble_eq_true rfl) ?_
  intro p e s m below meth c ls hF hr hX hK hl
  obtain ⟨hx, hb, hml, hown, hlk⟩ := id hF
  have hS : va_S (zA ad (xL sd)) s.heap s.heap [] := va_S.rf
  have hl : lv_has ls 3 [(0, .ref (ad 2)), (1, .int (zI (a))), (2, .int (zI (b)))] := hl
  refine lv_aload_n hx hb d_Do_stepsBetween_0 rfl (lv_at hl 0 rfl) ?_
  refine z_getr hx hb iw_Do hown hK hX 2 rfl rfl 7 (by decide) tw_68 (fun _ h => h) 15 rfl d_Do_stepsBetween_1 ?_
  refine lv_iload_n hx hb d_Do_stepsBetween_4 rfl (lv_at hl 1 rfl) ?_
  refine z_bipush hx hb d_Do_stepsBetween_5 (by decide) ?_
  refine z_imul hx hb d_Do_stepsBetween_7 ?_
  refine lv_iload_n hx hb d_Do_stepsBetween_8 rfl (lv_at hl 2 rfl) ?_
  refine z_iadd hx hb d_Do_stepsBetween_9 ?_
  refine z_iald (i := (a * 12) + b) (v := M 15 ((a * 12) + b)) hx hb hK hX 15 rfl (by omega) (by decide) rfl d_Do_stepsBetween_10 (fun rg_1 => ?_)
  exact z_iret (z := M 15 ((a * 12) + b)) (post := fun z u => z = (M 15 (a * 12 + b)) ∧ u = M) hx hb hr hlk hK hX hS (by omega) ⟨by first | rfl | omega | (split <;> omega) | (repeat' split) <;> first | rfl | omega | simp_all, rfl⟩ d_Do_stepsBetween_11
set_option maxHeartbeats 4000000 in
set_option maxRecDepth 100000 in
theorem k_Do_behind (l : Launch) (D : va_G) (ad : Nat → Nat) (cI : Nat → ClassId) (sd : Int64) (M : zM) (d h : Int) (h1 : 0 ≤ d ∧ d < 16) (h2 : -2147483648 ≤ h ∧ h ≤ 2147483647) : zMi l y_Do_behind (.code y_Do_behind c_Do_behind 3 (some .int)) { frames := 0, cells := 0, slots := 0, locals := 0 } D (xL sd) ad cI M [.ref (ad 2), .int (zI (d)), .int (zI (h))] (fun z u => z = (xSide M d h) ∧ u = M) := by
  refine z_of (cc := c_Do_behind) (maxL := 3) (ret := some .int) (own := "PersonSeeds$Doors") (by decide) rfl rfl (Nat.le_of_ble_eq_true rfl) ?_
  intro p e s m below meth c ls hF hr hX hK hl
  obtain ⟨hx, hb, hml, hown, hlk⟩ := id hF
  have hS : va_S (zA ad (xL sd)) s.heap s.heap [] := va_S.rf
  have hl : lv_has ls 3 [(0, .ref (ad 2)), (1, .int (zI (d))), (2, .int (zI (h)))] := hl
  refine lv_aload_n hx hb d_Do_behind_0 rfl (lv_at hl 0 rfl) ?_
  refine z_getr hx hb iw_Do hown hK hX 2 rfl rfl 1 (by decide) tw_60 (fun _ h => h) 9 rfl d_Do_behind_1 ?_
  refine lv_iload_n hx hb d_Do_behind_4 rfl (lv_at hl 1 rfl) ?_
  refine z_iald (i := d) (v := M 9 d) hx hb hK hX 9 rfl (by omega) (by decide) rfl d_Do_behind_5 (fun rg_1 => ?_)
  refine lv_iload_n hx hb d_Do_behind_6 rfl (lv_at hl 2 rfl) ?_
  refine z_icmp_ne (a := M 9 d) (b := h) (tgt := 17) hx hb d_Do_behind_7 (by decide) (by omega) (fun hb_2 => ?_) (fun hb_3 => ?_)
  · skip
    refine lv_aload_n hx hb d_Do_behind_17 rfl (lv_at hl 0 rfl) ?_
    refine z_getr hx hb iw_Do hown hK hX 2 rfl rfl 2 (by decide) tw_61 (fun _ h => h) 10 rfl d_Do_behind_18 ?_
    refine lv_iload_n hx hb d_Do_behind_21 rfl (lv_at hl 1 rfl) ?_
    refine z_iald (i := d) (v := M 10 d) hx hb hK hX 10 rfl (by omega) (by decide) rfl d_Do_behind_22 (fun rg_4 => ?_)
    refine lv_iload_n hx hb d_Do_behind_23 rfl (lv_at hl 2 rfl) ?_
    refine z_icmp_ne (a := M 10 d) (b := h) (tgt := 36) hx hb d_Do_behind_24 (by decide) (by omega) (fun hb_5 => ?_) (fun hb_6 => ?_)
    · skip
      refine z_const hx hb d_Do_behind_36 ?_
      exact z_iret (z := -1) (post := fun z u => z = (xSide M d h) ∧ u = M) hx hb hr hlk hK hX hS (by omega) ⟨by unfold xSide; simp [*], rfl⟩ d_Do_behind_37
    · skip
      refine lv_aload_n hx hb d_Do_behind_27 rfl (lv_at hl 0 rfl) ?_
      refine z_getr hx hb iw_Do hown hK hX 2 rfl rfl 1 (by decide) tw_60 (fun _ h => h) 9 rfl d_Do_behind_28 ?_
      refine lv_iload_n hx hb d_Do_behind_31 rfl (lv_at hl 1 rfl) ?_
      refine z_iald (i := d) (v := M 9 d) hx hb hK hX 9 rfl (by omega) (by decide) rfl d_Do_behind_32 (fun rg_7 => ?_)
      refine lv_goto (tgt := 37) hx hb d_Do_behind_33 (by decide) ?_
      exact z_iret (z := M 9 d) (post := fun z u => z = (xSide M d h) ∧ u = M) hx hb hr hlk hK hX hS (by omega) ⟨by unfold xSide; simp [*], rfl⟩ d_Do_behind_37
  · skip
    refine lv_aload_n hx hb d_Do_behind_10 rfl (lv_at hl 0 rfl) ?_
    refine z_getr hx hb iw_Do hown hK hX 2 rfl rfl 2 (by decide) tw_61 (fun _ h => h) 10 rfl d_Do_behind_11 ?_
    refine lv_iload_n hx hb d_Do_behind_14 rfl (lv_at hl 1 rfl) ?_
    refine z_iald (i := d) (v := M 10 d) hx hb hK hX 10 rfl (by omega) (by decide) rfl d_Do_behind_15 (fun rg_8 => ?_)
    exact z_iret (z := M 10 d) (post := fun z u => z = (xSide M d h) ∧ u = M) hx hb hr hlk hK hX hS (by omega) ⟨by unfold xSide; simp [*], rfl⟩ d_Do_behind_16
set_option maxHeartbeats 4000000 in
set_option maxRecDepth 100000 in
theorem k_Do_isFree (l : Launch) (D : va_G) (ad : Nat → Nat) (cI : Nat → ClassId) (sd : Int64) (M : zM) (d : Int) (h1 : 0 ≤ d ∧ d < 16) : zMi l y_Do_isFree (.code y_Do_isFree c_Do_isFree 2 (some .boolean)) { frames := 0, cells := 0, slots := 0, locals := 0 } D (xL sd) ad cI M [.ref (ad 2), .int (zI (d))] (fun z u => z = (if M 14 d < M 11 d then 1 else 0) ∧ u = M) := by
  refine z_of (cc := c_Do_isFree) (maxL := 2) (ret := some .boolean) (own := "PersonSeeds$Doors") (by decide) rfl rfl (Nat.le_of_ble_eq_true rfl) ?_
  intro p e s m below meth c ls hF hr hX hK hl
  obtain ⟨hx, hb, hml, hown, hlk⟩ := id hF
  have hS : va_S (zA ad (xL sd)) s.heap s.heap [] := va_S.rf
  have hl : lv_has ls 2 [(0, .ref (ad 2)), (1, .int (zI (d)))] := hl
  refine lv_aload_n hx hb d_Do_isFree_0 rfl (lv_at hl 0 rfl) ?_
  refine z_getr hx hb iw_Do hown hK hX 2 rfl rfl 6 (by decide) tw_67 (fun _ h => h) 14 rfl d_Do_isFree_1 ?_
  refine lv_iload_n hx hb d_Do_isFree_4 rfl (lv_at hl 1 rfl) ?_
  refine z_iald (i := d) (v := M 14 d) hx hb hK hX 14 rfl (by omega) (by decide) rfl d_Do_isFree_5 (fun rg_1 => ?_)
  refine lv_aload_n hx hb d_Do_isFree_6 rfl (lv_at hl 0 rfl) ?_
  refine z_getr hx hb iw_Do hown hK hX 2 rfl rfl 3 (by decide) tw_62 (fun _ h => h) 11 rfl d_Do_isFree_7 ?_
  refine lv_iload_n hx hb d_Do_isFree_10 rfl (lv_at hl 1 rfl) ?_
  refine z_iald (i := d) (v := M 11 d) hx hb hK hX 11 rfl (by omega) (by decide) rfl d_Do_isFree_11 (fun rg_2 => ?_)
  refine z_icmp_ge (a := M 14 d) (b := M 11 d) (tgt := 19) hx hb d_Do_isFree_12 (by decide) (by omega) (fun hb_3 => ?_) (fun hb_4 => ?_)
  · skip
    refine z_const hx hb d_Do_isFree_19 ?_
    exact z_zret (z := 0) (post := fun z u => z = (if M 14 d < M 11 d then 1 else 0) ∧ u = M) hx hb hr hlk hK hX hS (by omega) ⟨by first | rfl | omega | (split <;> omega) | (repeat' split) <;> first | rfl | omega | simp_all, rfl⟩ d_Do_isFree_20
  · skip
    refine z_const hx hb d_Do_isFree_15 ?_
    refine lv_goto (tgt := 20) hx hb d_Do_isFree_16 (by decide) ?_
    exact z_zret (z := 1) (post := fun z u => z = (if M 14 d < M 11 d then 1 else 0) ∧ u = M) hx hb hr hlk hK hX hS (by omega) ⟨by first | rfl | omega | (split <;> omega) | (repeat' split) <;> first | rfl | omega | simp_all, rfl⟩ d_Do_isFree_20
set_option maxHeartbeats 4000000 in
set_option maxRecDepth 100000 in
theorem k_Do_pass (l : Launch) (D : va_G) (ad : Nat → Nat) (cI : Nat → ClassId) (sd : Int64) (M : zM) (d h : Int) (h1 : 0 ≤ d ∧ d < 16) (h2 : -2147483648 ≤ h ∧ h ≤ 2147483647) : zMv l y_Do_pass (.code y_Do_pass c_Do_pass 3 (none)) { frames := 0, cells := 0, slots := 0, locals := 0 } D (xL sd) ad cI M [.ref (ad 2), .int (zI (d)), .int (zI (h))] (fun u => u = xPass M d h) := by
  refine z_of (cc := c_Do_pass) (maxL := 3) (ret := none) (own := "PersonSeeds$Doors") (by decide) rfl rfl (Nat.le_of_ble_eq_true rfl) ?_
  intro p e s m below meth c ls hF hr hX hK hl
  obtain ⟨hx, hb, hml, hown, hlk⟩ := id hF
  have hS : va_S (zA ad (xL sd)) s.heap s.heap [] := va_S.rf
  have hl : lv_has ls 3 [(0, .ref (ad 2)), (1, .int (zI (d))), (2, .int (zI (h)))] := hl
  refine lv_aload_n hx hb d_Do_pass_0 rfl (lv_at hl 0 rfl) ?_
  refine z_getr hx hb iw_Do hown hK hX 2 rfl rfl 6 (by decide) tw_67 (fun _ h => h) 14 rfl d_Do_pass_1 ?_
  refine lv_iload_n hx hb d_Do_pass_4 rfl (lv_at hl 1 rfl) ?_
  refine lv_dup2_11 hx hb d_Do_pass_5 rfl rfl ?_
  refine z_iald (i := d) (v := M 14 d) hx hb hK hX 14 rfl (by omega) (by decide) rfl d_Do_pass_6 (fun rg_1 => ?_)
  refine z_const hx hb d_Do_pass_7 ?_
  refine z_iadd hx hb d_Do_pass_8 ?_
  refine z_iastw (i := d) (v := (M 14 d) + 1) hx hb hK hX hS 14 rfl (by omega) (by decide) d_Do_pass_9 (fun H locs hX hS => ?_)
  refine lv_aload_n hx hb d_Do_pass_10 rfl (lv_at hl 0 rfl) ?_
  refine z_getr hx hb iw_Do hown hK hX 2 rfl rfl 1 (by decide) tw_60 (fun _ h => h) 9 rfl d_Do_pass_11 ?_
  refine lv_iload_n hx hb d_Do_pass_14 rfl (lv_at hl 1 rfl) ?_
  refine z_iald (i := d) (v := M 9 d) hx hb hK hX 9 rfl (by omega) (by decide) rfl d_Do_pass_15 (fun rg_2 => ?_)
  refine lv_iload_n hx hb d_Do_pass_16 rfl (lv_at hl 2 rfl) ?_
  refine z_icmp_ne (a := M 9 d) (b := h) (tgt := 33) hx hb d_Do_pass_17 (by decide) (by omega) (fun hb_3 => ?_) (fun hb_4 => ?_)
  · skip
    refine lv_aload_n hx hb d_Do_pass_33 rfl (lv_at hl 0 rfl) ?_
    refine z_getr hx hb iw_Do hown hK hX 2 rfl rfl 5 (by decide) tw_65 (fun _ h => h) 13 rfl d_Do_pass_34 ?_
    refine lv_iload_n hx hb d_Do_pass_37 rfl (lv_at hl 1 rfl) ?_
    refine lv_dup2_11 hx hb d_Do_pass_38 rfl rfl ?_
    refine z_iald (i := d) (v := M 13 d) hx hb hK hX 13 rfl (by omega) (by decide) rfl d_Do_pass_39 (fun rg_5 => ?_)
    refine z_const hx hb d_Do_pass_40 ?_
    refine z_iadd hx hb d_Do_pass_41 ?_
    refine z_iastw (i := d) (v := (M 13 d) + 1) hx hb hK hX hS 13 rfl (by omega) (by decide) d_Do_pass_42 (fun H locs hX hS => ?_)
    exact z_vret (post := fun u => u = xPass M d h) hx hb hr hlk hK hX hS (by unfold xPass; simp [*]) d_Do_pass_43
  · skip
    refine lv_aload_n hx hb d_Do_pass_20 rfl (lv_at hl 0 rfl) ?_
    refine z_getr hx hb iw_Do hown hK hX 2 rfl rfl 4 (by decide) tw_63 (fun _ h => h) 12 rfl d_Do_pass_21 ?_
    refine lv_iload_n hx hb d_Do_pass_24 rfl (lv_at hl 1 rfl) ?_
    refine lv_dup2_11 hx hb d_Do_pass_25 rfl rfl ?_
    refine z_iald (i := d) (v := M 12 d) hx hb hK hX 12 rfl (by omega) (by decide) rfl d_Do_pass_26 (fun rg_6 => ?_)
    refine z_const hx hb d_Do_pass_27 ?_
    refine z_iadd hx hb d_Do_pass_28 ?_
    refine z_iastw (i := d) (v := (M 12 d) + 1) hx hb hK hX hS 12 rfl (by omega) (by decide) d_Do_pass_29 (fun H locs hX hS => ?_)
    refine lv_goto (tgt := 43) hx hb d_Do_pass_30 (by decide) ?_
    exact z_vret (post := fun u => u = xPass M d h) hx hb hr hlk hK hX hS (by unfold xPass; simp [*]) d_Do_pass_43
set_option maxHeartbeats 4000000 in
set_option maxRecDepth 100000 in
theorem k_Tr_placeNow (l : Launch) (D : va_G) (ad : Nat → Nat) (cI : Nat → ClassId) (sd : Int64) (M : zM) (p1 : Int) (h1 : 0 ≤ p1 ∧ p1 < 60) (h2 : 0 ≤ M 16 p1 ∧ M 16 p1 ≤ 46) : zMi l y_Tr_placeNow (.code y_Tr_placeNow c_Tr_placeNow 2 (some .int)) { frames := 0, cells := 0, slots := 0, locals := 0 } D (xL sd) ad cI M [.ref (ad 3), .int (zI (p1))] (fun z u => z = (xNow M p1) ∧ u = M) := by
  refine z_of (cc := c_Tr_placeNow) (maxL := 2) (ret := some .int) (own := "PersonSeeds$Trails") (by decide) rfl rfl (Nat.le_of_ble_eq_true rfl) ?_
  intro p e s m below meth c ls hF hr hX hK hl
  obtain ⟨hx, hb, hml, hown, hlk⟩ := id hF
  have hS : va_S (zA ad (xL sd)) s.heap s.heap [] := va_S.rf
  have hl : lv_has ls 2 [(0, .ref (ad 3)), (1, .int (zI (p1)))] := hl
  refine lv_aload_n hx hb d_Tr_placeNow_0 rfl (lv_at hl 0 rfl) ?_
  refine z_getr hx hb iw_Tr hown hK hX 3 rfl rfl 0 (by decide) tw_92 (fun _ h => h) 16 rfl d_Tr_placeNow_1 ?_
  refine lv_iload_n hx hb d_Tr_placeNow_4 rfl (lv_at hl 1 rfl) ?_
  refine z_iald (i := p1) (v := M 16 p1) hx hb hK hX 16 rfl (by omega) (by decide) rfl d_Tr_placeNow_5 (fun rg_1 => ?_)
  refine z_if_ne (a := M 16 p1) (tgt := 13) hx hb d_Tr_placeNow_6 (by decide) (by omega) (fun hb_2 => ?_) (fun hb_3 => ?_)
  · skip
    refine lv_aload_n hx hb d_Tr_placeNow_13 rfl (lv_at hl 0 rfl) ?_
    refine z_getr hx hb iw_Tr hown hK hX 3 rfl rfl 2 (by decide) tw_94 (fun _ h => h) 18 rfl d_Tr_placeNow_14 ?_
    refine lv_iload_n hx hb d_Tr_placeNow_17 rfl (lv_at hl 1 rfl) ?_
    refine z_bipush hx hb d_Tr_placeNow_18 (by decide) ?_
    refine z_imul hx hb d_Tr_placeNow_20 ?_
    refine lv_aload_n hx hb d_Tr_placeNow_21 rfl (lv_at hl 0 rfl) ?_
    refine z_getr hx hb iw_Tr hown hK hX 3 rfl rfl 0 (by decide) tw_92 (fun _ h => h) 16 rfl d_Tr_placeNow_22 ?_
    refine lv_iload_n hx hb d_Tr_placeNow_25 rfl (lv_at hl 1 rfl) ?_
    refine z_iald (i := p1) (v := M 16 p1) hx hb hK hX 16 rfl (by omega) (by decide) rfl d_Tr_placeNow_26 (fun rg_4 => ?_)
    refine z_iadd hx hb d_Tr_placeNow_27 ?_
    refine z_const hx hb d_Tr_placeNow_28 ?_
    refine z_isub hx hb d_Tr_placeNow_29 ?_
    refine z_iald (i := ((p1 * 46) + (M 16 p1)) - 1) (v := M 18 (((p1 * 46) + (M 16 p1)) - 1)) hx hb hK hX 18 rfl (by omega) (by decide) rfl d_Tr_placeNow_30 (fun rg_5 => ?_)
    exact z_iret (z := M 18 (((p1 * 46) + (M 16 p1)) - 1)) (post := fun z u => z = (xNow M p1) ∧ u = M) hx hb hr hlk hK hX hS (by omega) ⟨by unfold xNow; simp [*], rfl⟩ d_Tr_placeNow_31
  · skip
    refine z_const hx hb d_Tr_placeNow_9 ?_
    refine lv_goto (tgt := 31) hx hb d_Tr_placeNow_10 (by decide) ?_
    exact z_iret (z := -1) (post := fun z u => z = (xNow M p1) ∧ u = M) hx hb hr hlk hK hX hS (by omega) ⟨by unfold xNow; simp [*], rfl⟩ d_Tr_placeNow_31
set_option maxHeartbeats 4000000 in
set_option maxRecDepth 100000 in
theorem k_Tr_add (l : Launch) (D : va_G) (ad : Nat → Nat) (cI : Nat → ClassId) (sd : Int64) (M : zM) (p1 t r : Int) (h1 : 0 ≤ p1 ∧ p1 < 60) (h2 : 0 ≤ M 16 p1 ∧ M 16 p1 ≤ 46) (h3 : -2147483648 ≤ t ∧ t ≤ 2147483647) (h4 : -2147483648 ≤ r ∧ r ≤ 2147483647) : zMv l y_Tr_add (.code y_Tr_add c_Tr_add 5 (none)) { frames := 0, cells := 0, slots := 0, locals := 0 } D (xL sd) ad cI M [.ref (ad 3), .int (zI (p1)), .int (zI (t)), .int (zI (r))] (fun u => u = xTrailAdd M p1 t r) := by
  refine z_of (cc := c_Tr_add) (maxL := 5) (ret := none) (own := "PersonSeeds$Trails") (by decide) rfl rfl (Nat.le_of_ble_eq_true rfl) ?_
  intro p e s m below meth c ls hF hr hX hK hl
  obtain ⟨hx, hb, hml, hown, hlk⟩ := id hF
  have hS : va_S (zA ad (xL sd)) s.heap s.heap [] := va_S.rf
  have hl : lv_has ls 5 [(0, .ref (ad 3)), (1, .int (zI (p1))), (2, .int (zI (t))), (3, .int (zI (r)))] := hl
  refine lv_aload_n hx hb d_Tr_add_0 rfl (lv_at hl 0 rfl) ?_
  refine z_getr hx hb iw_Tr hown hK hX 3 rfl rfl 0 (by decide) tw_92 (fun _ h => h) 16 rfl d_Tr_add_1 ?_
  refine lv_iload_n hx hb d_Tr_add_4 rfl (lv_at hl 1 rfl) ?_
  refine z_iald (i := p1) (v := M 16 p1) hx hb hK hX 16 rfl (by omega) (by decide) rfl d_Tr_add_5 (fun rg_1 => ?_)
  refine z_bipush hx hb d_Tr_add_6 (by decide) ?_
  refine z_icmp_lt (a := M 16 p1) (b := 46) (tgt := 12) hx hb d_Tr_add_8 (by decide) (by omega) (fun hb_2 => ?_) (fun hb_3 => ?_)
  · skip
    refine lv_iload_n hx hb d_Tr_add_12 rfl (lv_at hl 1 rfl) ?_
    refine z_bipush hx hb d_Tr_add_13 (by decide) ?_
    refine z_imul hx hb d_Tr_add_15 ?_
    refine lv_aload_n hx hb d_Tr_add_16 rfl (lv_at hl 0 rfl) ?_
    refine z_getr hx hb iw_Tr hown hK hX 3 rfl rfl 0 (by decide) tw_92 (fun _ h => h) 16 rfl d_Tr_add_17 ?_
    refine lv_iload_n hx hb d_Tr_add_20 rfl (lv_at hl 1 rfl) ?_
    refine z_iald (i := p1) (v := M 16 p1) hx hb hK hX 16 rfl (by omega) (by decide) rfl d_Tr_add_21 (fun rg_4 => ?_)
    refine z_iadd hx hb d_Tr_add_22 ?_
    refine lv_istore (lv' := [(4, .int (zI ((p1 * 46) + (M 16 p1)))), (0, .ref (ad 3)), (1, .int (zI (p1))), (2, .int (zI (t))), (3, .int (zI (r)))]) hx hb d_Tr_add_23 hl (by decide) rfl (fun ls hl => ?_)
    refine lv_aload_n hx hb d_Tr_add_25 rfl (lv_at hl 1 rfl) ?_
    refine z_getr hx hb iw_Tr hown hK hX 3 rfl rfl 1 (by decide) tw_93 (fun _ h => h) 17 rfl d_Tr_add_26 ?_
    refine lv_iload hx hb d_Tr_add_29 (lv_at hl 0 rfl) ?_
    refine lv_iload_n hx hb d_Tr_add_31 rfl (lv_at hl 3 rfl) ?_
    refine z_iast (i := (p1 * 46) + (M 16 p1)) (v := t) hx hb hK hX hS 17 rfl (by omega) (by decide) (by omega) d_Tr_add_32 (fun H locs hX hS => ?_)
    refine lv_aload_n hx hb d_Tr_add_33 rfl (lv_at hl 1 rfl) ?_
    refine z_getr hx hb iw_Tr hown hK hX 3 rfl rfl 2 (by decide) tw_94 (fun _ h => h) 18 rfl d_Tr_add_34 ?_
    refine lv_iload hx hb d_Tr_add_37 (lv_at hl 0 rfl) ?_
    refine lv_iload_n hx hb d_Tr_add_39 rfl (lv_at hl 4 rfl) ?_
    refine z_iast (i := (p1 * 46) + (M 16 p1)) (v := r) hx hb hK hX hS 18 rfl (by omega) (by decide) (by omega) d_Tr_add_40 (fun H locs hX hS => ?_)
    refine lv_aload_n hx hb d_Tr_add_41 rfl (lv_at hl 1 rfl) ?_
    refine z_getr hx hb iw_Tr hown hK hX 3 rfl rfl 0 (by decide) tw_92 (fun _ h => h) 16 rfl d_Tr_add_42 ?_
    refine lv_iload_n hx hb d_Tr_add_45 rfl (lv_at hl 2 rfl) ?_
    refine lv_dup2_11 hx hb d_Tr_add_46 rfl rfl ?_
    refine z_iald (i := p1) (v := M 16 p1) hx hb hK hX 16 rfl (by omega) (by decide) rfl d_Tr_add_47 (fun rg_5 => ?_)
    refine z_const hx hb d_Tr_add_48 ?_
    refine z_iadd hx hb d_Tr_add_49 ?_
    refine z_iast (i := p1) (v := (M 16 p1) + 1) hx hb hK hX hS 16 rfl (by omega) (by decide) (by omega) d_Tr_add_50 (fun H locs hX hS => ?_)
    exact z_vret (post := fun u => u = xTrailAdd M p1 t r) hx hb hr hlk hK hX hS (by unfold xTrailAdd; first | rw [if_pos (by omega)] | rw [if_neg (by omega)]) d_Tr_add_51
  · skip
    exact z_vret (post := fun u => u = xTrailAdd M p1 t r) hx hb hr hlk hK hX hS (by unfold xTrailAdd; first | rw [if_pos (by omega)] | rw [if_neg (by omega)]) d_Tr_add_11
set_option maxHeartbeats 4000000 in
set_option maxRecDepth 100000 in
theorem k_Pe_wants (l : Launch) (D : va_G) (ad : Nat → Nat) (cI : Nat → ClassId) (sd : Int64) (M : zM) (p1 t : Int) (h1 : 0 ≤ p1 ∧ p1 < 60) (h2 : -2147483648 ≤ t ∧ t ≤ 2147483647) : zMi l y_Pe_wants (.code y_Pe_wants c_Pe_wants 3 (some .int)) { frames := 0, cells := 0, slots := 0, locals := 0 } D (xL sd) ad cI M [.ref (ad 4), .int (zI (p1)), .int (zI (t))] (fun z u => z = (xWants M p1 t) ∧ u = M) := by
  refine z_of (cc := c_Pe_wants) (maxL := 3) (ret := some .int) (own := "PersonSeeds$Persons") (by decide) rfl rfl (Nat.le_of_ble_eq_true rfl) ?_
  intro p e s m below meth c ls hF hr hX hK hl
  obtain ⟨hx, hb, hml, hown, hlk⟩ := id hF
  have hS : va_S (zA ad (xL sd)) s.heap s.heap [] := va_S.rf
  have hl : lv_has ls 3 [(0, .ref (ad 4)), (1, .int (zI (p1))), (2, .int (zI (t)))] := hl
  refine lv_iload_n hx hb d_Pe_wants_0 rfl (lv_at hl 2 rfl) ?_
  refine lv_aload_n hx hb d_Pe_wants_1 rfl (lv_at hl 0 rfl) ?_
  refine z_getr hx hb iw_Pe hown hK hX 4 rfl rfl 7 (by decide) tw_121 (fun _ h => h) 24 rfl d_Pe_wants_2 ?_
  refine lv_iload_n hx hb d_Pe_wants_5 rfl (lv_at hl 1 rfl) ?_
  refine z_iald (i := p1) (v := M 24 p1) hx hb hK hX 24 rfl (by omega) (by decide) rfl d_Pe_wants_6 (fun rg_1 => ?_)
  refine z_icmp_lt (a := t) (b := M 24 p1) (tgt := 12) hx hb d_Pe_wants_7 (by decide) (by omega) (fun hb_2 => ?_) (fun hb_3 => ?_)
  · skip
    refine lv_iload_n hx hb d_Pe_wants_12 rfl (lv_at hl 2 rfl) ?_
    refine lv_aload_n hx hb d_Pe_wants_13 rfl (lv_at hl 0 rfl) ?_
    refine z_getr hx hb iw_Pe hown hK hX 4 rfl rfl 4 (by decide) tw_115 (fun _ h => h) 21 rfl d_Pe_wants_14 ?_
    refine lv_iload_n hx hb d_Pe_wants_17 rfl (lv_at hl 1 rfl) ?_
    refine z_iald (i := p1) (v := M 21 p1) hx hb hK hX 21 rfl (by omega) (by decide) rfl d_Pe_wants_18 (fun rg_4 => ?_)
    refine z_icmp_lt (a := t) (b := M 21 p1) (tgt := 41) hx hb d_Pe_wants_19 (by decide) (by omega) (fun hb_5 => ?_) (fun hb_6 => ?_)
    · skip
      refine lv_aload_n hx hb d_Pe_wants_41 rfl (lv_at hl 0 rfl) ?_
      refine z_getr hx hb iw_Pe hown hK hX 4 rfl rfl 3 (by decide) tw_113 (fun _ h => h) 20 rfl d_Pe_wants_42 ?_
      refine lv_iload_n hx hb d_Pe_wants_45 rfl (lv_at hl 1 rfl) ?_
      refine z_iald (i := p1) (v := M 20 p1) hx hb hK hX 20 rfl (by omega) (by decide) rfl d_Pe_wants_46 (fun rg_7 => ?_)
      exact z_iret (z := M 20 p1) (post := fun z u => z = (xWants M p1 t) ∧ u = M) hx hb hr hlk hK hX hS (by omega) ⟨by unfold xWants; (repeat' split) <;> first | rfl | omega, rfl⟩ d_Pe_wants_47
    · skip
      refine lv_iload_n hx hb d_Pe_wants_22 rfl (lv_at hl 2 rfl) ?_
      refine lv_aload_n hx hb d_Pe_wants_23 rfl (lv_at hl 0 rfl) ?_
      refine z_getr hx hb iw_Pe hown hK hX 4 rfl rfl 5 (by decide) tw_117 (fun _ h => h) 22 rfl d_Pe_wants_24 ?_
      refine lv_iload_n hx hb d_Pe_wants_27 rfl (lv_at hl 1 rfl) ?_
      refine z_iald (i := p1) (v := M 22 p1) hx hb hK hX 22 rfl (by omega) (by decide) rfl d_Pe_wants_28 (fun rg_8 => ?_)
      refine z_icmp_ge (a := t) (b := M 22 p1) (tgt := 41) hx hb d_Pe_wants_29 (by decide) (by omega) (fun hb_9 => ?_) (fun hb_10 => ?_)
      · skip
        refine lv_aload_n hx hb d_Pe_wants_41 rfl (lv_at hl 0 rfl) ?_
        refine z_getr hx hb iw_Pe hown hK hX 4 rfl rfl 3 (by decide) tw_113 (fun _ h => h) 20 rfl d_Pe_wants_42 ?_
        refine lv_iload_n hx hb d_Pe_wants_45 rfl (lv_at hl 1 rfl) ?_
        refine z_iald (i := p1) (v := M 20 p1) hx hb hK hX 20 rfl (by omega) (by decide) rfl d_Pe_wants_46 (fun rg_11 => ?_)
        exact z_iret (z := M 20 p1) (post := fun z u => z = (xWants M p1 t) ∧ u = M) hx hb hr hlk hK hX hS (by omega) ⟨by unfold xWants; (repeat' split) <;> first | rfl | omega, rfl⟩ d_Pe_wants_47
      · skip
        refine lv_aload_n hx hb d_Pe_wants_32 rfl (lv_at hl 0 rfl) ?_
        refine z_getr hx hb iw_Pe hown hK hX 4 rfl rfl 6 (by decide) tw_119 (fun _ h => h) 23 rfl d_Pe_wants_33 ?_
        refine lv_iload_n hx hb d_Pe_wants_36 rfl (lv_at hl 1 rfl) ?_
        refine z_iald (i := p1) (v := M 23 p1) hx hb hK hX 23 rfl (by omega) (by decide) rfl d_Pe_wants_37 (fun rg_12 => ?_)
        refine lv_goto (tgt := 47) hx hb d_Pe_wants_38 (by decide) ?_
        exact z_iret (z := M 23 p1) (post := fun z u => z = (xWants M p1 t) ∧ u = M) hx hb hr hlk hK hX hS (by omega) ⟨by unfold xWants; (repeat' split) <;> first | rfl | omega, rfl⟩ d_Pe_wants_47
  · skip
    refine z_const hx hb d_Pe_wants_10 ?_
    exact z_iret (z := -1) (post := fun z u => z = (xWants M p1 t) ∧ u = M) hx hb hr hlk hK hX hS (by omega) ⟨by unfold xWants; (repeat' split) <;> first | rfl | omega, rfl⟩ d_Pe_wants_11
set_option maxHeartbeats 4000000 in
set_option maxRecDepth 100000 in
theorem k_Ro_end (l : Launch) (D : va_G) (ad : Nat → Nat) (cI : Nat → ClassId) (sd : Int64) (M : zM) (h1 : 0 ≤ M 1 0 ∧ M 1 0 ≤ 12) : zMv l y_Ro_endMinute (.code y_Ro_endMinute c_Ro_endMinute 2 (none)) { frames := 1, cells := 0, slots := 0, locals := 21 } D (xL sd) ad cI M [.ref (ad 1)] (fun u => u = xEnd M) := by
  refine z_of (cc := c_Ro_endMinute) (maxL := 2) (ret := none) (own := "PersonSeeds$Rooms") (by decide) rfl rfl (Nat.le_of_ble_eq_true rfl) ?_
  intro p e s m below meth c ls hF hr hX hK hl
  obtain ⟨hx, hb, hml, hown, hlk⟩ := id hF
  have hS : va_S (zA ad (xL sd)) s.heap s.heap [] := va_S.rf
  have hl : lv_has ls 2 [(0, .ref (ad 1))] := hl
  refine z_const hx hb d_Ro_endMinute_0 ?_
  refine lv_istore_n (lv' := [(1, .int (zI (0))), (0, .ref (ad 1))]) hx hb d_Ro_endMinute_1 rfl hl (by decide) rfl (fun ls hl => ?_)
  have loop2 : ∀ (n2 : Nat) (k : Nat) (H : Heap) (locs : List Loc) (ls : Array Slot), (k : Int) ≤ M 1 0 → (M 1 0).toNat - k < n2 → zX D (xL sd) ad cI (xEndN M k) H → va_S (zA ad (xL sd)) s.heap H locs → lv_has ls 2 [(1, .int (zI ((k : Int)))), (0, .ref (ad 1))] → W p l e { frames := 1, cells := 0, slots := 0, locals := 21 } s m ([.ref (ad 1)] : List Value).toArray below meth c H locs 0 0 (MQ below (zQv D (xL sd) ad cI (fun u => u = xEnd M)) ([.ref (ad 1)] : List Value).toArray s 0 0 (zA ad (xL sd))) (F0 m 2 ls []) := by
    intro n2
    induction n2 with
    | zero => intro k H locs ls hI hn; exact absurd hn (Nat.not_lt_zero _)
    | succ n2 ih2 =>
      intro k H locs ls hI2 hn2 hX hS hl
      have e1 : xEndN M k 1 0 = M 1 0 := by rw [xEndN_c (by decide) (by decide)]
      refine lv_iload_n hx hb d_Ro_endMinute_2 rfl (lv_at hl 0 rfl) ?_
      refine lv_aload_n hx hb d_Ro_endMinute_3 rfl (lv_at hl 1 rfl) ?_
      refine z_geti (i := 0) (v := (xEndN M k) 1 0) hx hb iw_Ro hown hK hX 1 rfl rfl 0 (by decide) tw_28 (fun _ h => h) rfl rfl rfl d_Ro_endMinute_4 (fun rg_1 => ?_)
      refine z_icmp_ge (a := (k : Int)) (b := (xEndN M k) 1 0) (tgt := 55) hx hb d_Ro_endMinute_7 (by decide) (by omega) (fun hb_2 => ?_) (fun hb_3 => ?_)
      · skip
        exact z_vret (post := fun u => u = xEnd M) hx hb hr hlk hK hX hS (by unfold xEnd; rw [show k = (M 1 0).toNat by omega]) d_Ro_endMinute_55
      · skip
        refine lv_aload_n hx hb d_Ro_endMinute_10 rfl (lv_at hl 1 rfl) ?_
        refine z_getr hx hb iw_Ro hown hK hX 1 rfl rfl 3 (by decide) tw_33 (fun _ h => h) 7 rfl d_Ro_endMinute_11 ?_
        refine lv_iload_n hx hb d_Ro_endMinute_14 rfl (lv_at hl 0 rfl) ?_
        refine lv_aload_n hx hb d_Ro_endMinute_15 rfl (lv_at hl 1 rfl) ?_
        refine z_getr hx hb iw_Ro hown hK hX 1 rfl rfl 3 (by decide) tw_33 (fun _ h => h) 7 rfl d_Ro_endMinute_16 ?_
        refine lv_iload_n hx hb d_Ro_endMinute_19 rfl (lv_at hl 0 rfl) ?_
        refine z_iald (i := (k : Int)) (v := (xEndN M k) 7 (k : Int)) hx hb hK hX 7 rfl (by omega) (by decide) rfl d_Ro_endMinute_20 (fun rg_4 => ?_)
        refine lv_aload_n hx hb d_Ro_endMinute_21 rfl (lv_at hl 1 rfl) ?_
        refine z_getr hx hb iw_Ro hown hK hX 1 rfl rfl 2 (by decide) tw_31 (fun _ h => h) 6 rfl d_Ro_endMinute_22 ?_
        refine lv_iload_n hx hb d_Ro_endMinute_25 rfl (lv_at hl 0 rfl) ?_
        refine z_iald (i := (k : Int)) (v := (xEndN M k) 6 (k : Int)) hx hb hK hX 6 rfl (by omega) (by decide) rfl d_Ro_endMinute_26 (fun rg_5 => ?_)
        refine z_mmax (a := (xEndN M k) 7 (k : Int)) (b := (xEndN M k) 6 (k : Int)) hx hb (hml.trans hl.1.symm) hown hK tw_404 tw_405 tw_13 tw_406 (Nat.le_of_ble_eq_true rfl) (Nat.le_of_ble_eq_true rfl) (Nat.zero_le _) (Nat.zero_le _) (by omega) d_Ro_endMinute_27 ?_
        refine z_iast (i := (k : Int)) (v := max ((xEndN M k) 7 (k : Int)) ((xEndN M k) 6 (k : Int))) hx hb hK hX hS 7 rfl (by omega) (by decide) (by omega) d_Ro_endMinute_30 (fun H locs hX hS => ?_)
        refine lv_aload_n hx hb d_Ro_endMinute_31 rfl (lv_at hl 1 rfl) ?_
        refine lv_iload_n hx hb d_Ro_endMinute_32 rfl (lv_at hl 0 rfl) ?_
        refine z_callVi hF (k_Ro_hasSpace l D ad cI sd (zU (xEndN M k) 7 (k : Int) (max ((xEndN M k) 7 (k : Int)) ((xEndN M k) 6 (k : Int)))) (k : Int) (by omega)) (hK.cV 1 tw_370 tw_407 tw_2 tw_369 ts_15 (by decide +kernel) rfl rfl ⟨Nat.le_of_ble_eq_true rfl, Nat.le_of_ble_eq_true rfl⟩) hK hX hS rfl rfl rfl hl.1 rfl (Nat.le_of_ble_eq_true rfl) d_Ro_endMinute_33 ⟨Nat.zero_le _, Nat.zero_le _⟩ (fun z u H locs rg_6 hp hX hS => ?_)
        obtain ⟨hz, hu⟩ := hp
        rw [hu] at hX
        have hz : z = (if ((xEndN M k) 6 (k : Int)) < ((xEndN M k) 5 (k : Int)) then 1 else 0) := hz
        subst hz
        refine z_if_ne (a := if ((xEndN M k) 6 (k : Int)) < ((xEndN M k) 5 (k : Int)) then 1 else 0) (tgt := 49) hx hb d_Ro_endMinute_36 (by decide) (by omega) (fun hb_7 => ?_) (fun hb_8 => ?_)
        · skip
          refine z_iinc (lv' := [(1, .int (zI ((k : Int) + 1))), (0, .ref (ad 1))]) hx hb d_Ro_endMinute_49 hl (k := 0) rfl (by decide) rfl (fun ls hl => ?_)
          refine lv_goto (tgt := 2) hx hb d_Ro_endMinute_52 (by decide) ?_
          exact ih2 (k + 1) _ _ _ (by omega) (by omega) (by have e9 : xEndN M (k + 1) = zU (xEndN M k) 7 (k : Int) (max ((xEndN M k) 7 (k : Int)) ((xEndN M k) 6 (k : Int))) := (by show xEndI (xEndN M k) k = _; unfold xEndI; first | rw [if_pos (by omega)] | rw [if_neg (by omega)]); rw [e9]; exact hX) hS (lv_sub hl [0, 1] rfl)
        · skip
          refine lv_aload_n hx hb d_Ro_endMinute_39 rfl (lv_at hl 1 rfl) ?_
          refine z_getr hx hb iw_Ro hown hK hX 1 rfl rfl 4 (by decide) tw_35 (fun _ h => h) 8 rfl d_Ro_endMinute_40 ?_
          refine lv_iload_n hx hb d_Ro_endMinute_43 rfl (lv_at hl 0 rfl) ?_
          refine lv_dup2_11 hx hb d_Ro_endMinute_44 rfl rfl ?_
          refine z_iald (i := (k : Int)) (v := (xEndN M k) 8 (k : Int)) hx hb hK hX 8 rfl (by omega) (by decide) rfl d_Ro_endMinute_45 (fun rg_9 => ?_)
          refine z_const hx hb d_Ro_endMinute_46 ?_
          refine z_iadd hx hb d_Ro_endMinute_47 ?_
          refine z_iastw (i := (k : Int)) (v := ((xEndN M k) 8 (k : Int)) + 1) hx hb hK hX hS 8 rfl (by omega) (by decide) d_Ro_endMinute_48 (fun H locs hX hS => ?_)
          refine z_iinc (lv' := [(1, .int (zI ((k : Int) + 1))), (0, .ref (ad 1))]) hx hb d_Ro_endMinute_49 hl (k := 0) rfl (by decide) rfl (fun ls hl => ?_)
          refine lv_goto (tgt := 2) hx hb d_Ro_endMinute_52 (by decide) ?_
          exact ih2 (k + 1) _ _ _ (by omega) (by omega) (by have e9 : xEndN M (k + 1) = zU (zU (xEndN M k) 7 (k : Int) (max ((xEndN M k) 7 (k : Int)) ((xEndN M k) 6 (k : Int)))) 8 (k : Int) (bm (((xEndN M k) 8 (k : Int)) + 1)) := (by show xEndI (xEndN M k) k = _; unfold xEndI; first | rw [if_pos (by omega)] | rw [if_neg (by omega)]); rw [e9]; exact hX) hS (lv_sub hl [0, 1] rfl)
  exact loop2 _ 0 _ _ _ (by omega) (Nat.lt_succ_self _) hX hS (lv_sub hl [0, 1] rfl)
set_option maxHeartbeats 4000000 in
set_option maxRecDepth 100000 in
theorem k_Do_towards (l : Launch) (D : va_G) (ad : Nat → Nat) (cI : Nat → ClassId) (sd : Int64) (M : zM) (h g : Int) (h1 : 0 ≤ h ∧ h < 12) (h2 : 0 ≤ g ∧ g < 12) (h3 : 0 ≤ M 2 0 ∧ M 2 0 ≤ 16) (h4 : ∀ d, 0 ≤ d → d < M 2 0 → (0 ≤ M 9 d ∧ M 9 d < 12) ∧ 0 ≤ M 10 d ∧ M 10 d < 12) : zMi l y_Do_towards (.code y_Do_towards c_Do_towards 6 (some .int)) { frames := 1, cells := 0, slots := 0, locals := 22 } D (xL sd) ad cI M [.ref (ad 2), .int (zI (h)), .int (zI (g))] (fun z u => z = (xTow M h g) ∧ u = M) := by
  refine z_of (cc := c_Do_towards) (maxL := 6) (ret := some .int) (own := "PersonSeeds$Doors") (by decide) rfl rfl (Nat.le_of_ble_eq_true rfl) ?_
  intro p e s m below meth c ls hF hr hX hK hl
  obtain ⟨hx, hb, hml, hown, hlk⟩ := id hF
  have hS : va_S (zA ad (xL sd)) s.heap s.heap [] := va_S.rf
  have hl : lv_has ls 6 [(0, .ref (ad 2)), (1, .int (zI (h))), (2, .int (zI (g)))] := hl
  refine lv_aload_n hx hb d_Do_towards_0 rfl (lv_at hl 0 rfl) ?_
  refine lv_iload_n hx hb d_Do_towards_1 rfl (lv_at hl 1 rfl) ?_
  refine lv_iload_n hx hb d_Do_towards_2 rfl (lv_at hl 2 rfl) ?_
  refine z_callVi hF (k_Do_steps l D ad cI sd M h g (by omega) (by omega)) (hK.cV 2 tw_312 tw_309 tw_3 tw_311 ts_7 (by decide +kernel) rfl rfl ⟨Nat.le_of_ble_eq_true rfl, Nat.le_of_ble_eq_true rfl⟩) hK hX hS rfl rfl rfl hl.1 rfl (Nat.le_of_ble_eq_true rfl) d_Do_towards_3 ⟨Nat.zero_le _, Nat.zero_le _⟩ (fun z u H locs rg_1 hp hX hS => ?_)
  obtain ⟨hz, hu⟩ := hp
  rw [hu] at hX
  have hz : z = (M 15 (h * 12 + g)) := hz
  subst hz
  refine lv_istore_n (lv' := [(3, .int (zI ((M 15 (h * 12 + g))))), (0, .ref (ad 2)), (1, .int (zI (h))), (2, .int (zI (g)))]) hx hb d_Do_towards_6 rfl hl (by decide) rfl (fun ls hl => ?_)
  refine z_const hx hb d_Do_towards_7 ?_
  refine lv_istore (lv' := [(4, .int (zI (0))), (3, .int (zI ((M 15 (h * 12 + g))))), (0, .ref (ad 2)), (1, .int (zI (h))), (2, .int (zI (g)))]) hx hb d_Do_towards_8 hl (by decide) rfl (fun ls hl => ?_)
  have loop10 : ∀ (n10 : Nat) (k : Nat) (H : Heap) (locs : List Loc) (ls : Array Slot), ((k : Int) ≤ M 2 0 ∧ xTow M h g = if M 15 (h * 12 + g) < 1000 then xTowN M h g ((M 2 0).toNat - k) k else -1) → (M 2 0).toNat - k < n10 → zX D (xL sd) ad cI M H → va_S (zA ad (xL sd)) s.heap H locs → lv_has ls 6 [(4, .int (zI ((k : Int)))), (3, .int (zI (M 15 (h * 12 + g)))), (0, .ref (ad 2)), (1, .int (zI (h))), (2, .int (zI (g)))] → W p l e { frames := 1, cells := 0, slots := 0, locals := 22 } s m ([.ref (ad 2), .int (zI (h)), .int (zI (g))] : List Value).toArray below meth c H locs 0 0 (MQ below (zQi D (xL sd) ad cI (fun z u => z = (xTow M h g) ∧ u = M)) ([.ref (ad 2), .int (zI (h)), .int (zI (g))] : List Value).toArray s 0 0 (zA ad (xL sd))) (F0 m 10 ls []) := by
    intro n10
    induction n10 with
    | zero => intro k H locs ls hI hn; exact absurd hn (Nat.not_lt_zero _)
    | succ n10 ih10 =>
      intro k H locs ls hI10 hn10 hX hS hl
      refine lv_iload hx hb d_Do_towards_10 (lv_at hl 0 rfl) ?_
      refine lv_aload_n hx hb d_Do_towards_12 rfl (lv_at hl 2 rfl) ?_
      refine z_geti (i := 0) (v := M 2 0) hx hb iw_Do hown hK hX 2 rfl rfl 0 (by decide) tw_58 (fun _ h => h) rfl rfl rfl d_Do_towards_13 (fun rg_2 => ?_)
      refine z_icmp_ge (a := (k : Int)) (b := M 2 0) (tgt := 61) hx hb d_Do_towards_16 (by decide) (by omega) (fun hb_3 => ?_) (fun hb_4 => ?_)
      · skip
        refine z_const hx hb d_Do_towards_61 ?_
        exact z_iret (z := -1) (post := fun z u => z = (xTow M h g) ∧ u = M) hx hb hr hlk hK hX hS (by omega) ⟨by first | (rw [hI10.2, show (M 2 0).toNat - k = 0 by omega]; simp [xTowN]; done) | (rw [hI10.2, if_neg (by omega)]; done) | (rw [hI10.2, if_pos (by omega), show (M 2 0).toNat - k = ((M 2 0).toNat - (k + 1)) + 1 by omega, xTowN, if_pos (by omega)]; done), rfl⟩ d_Do_towards_62
      · skip
        refine lv_iload_n hx hb d_Do_towards_19 rfl (lv_at hl 1 rfl) ?_
        refine z_sipush hx hb d_Do_towards_20 (by decide) ?_
        refine z_icmp_ge (a := M 15 (h * 12 + g)) (b := 1000) (tgt := 61) hx hb d_Do_towards_23 (by decide) (by omega) (fun hb_5 => ?_) (fun hb_6 => ?_)
        · skip
          refine z_const hx hb d_Do_towards_61 ?_
          exact z_iret (z := -1) (post := fun z u => z = (xTow M h g) ∧ u = M) hx hb hr hlk hK hX hS (by omega) ⟨by first | (rw [hI10.2, show (M 2 0).toNat - k = 0 by omega]; simp [xTowN]; done) | (rw [hI10.2, if_neg (by omega)]; done) | (rw [hI10.2, if_pos (by omega), show (M 2 0).toNat - k = ((M 2 0).toNat - (k + 1)) + 1 by omega, xTowN, if_pos (by omega)]; done), rfl⟩ d_Do_towards_62
        · skip
          refine lv_aload_n hx hb d_Do_towards_26 rfl (lv_at hl 2 rfl) ?_
          refine lv_iload hx hb d_Do_towards_27 (lv_at hl 0 rfl) ?_
          refine lv_iload_n hx hb d_Do_towards_29 rfl (lv_at hl 3 rfl) ?_
          refine z_callVi hF (k_Do_behind l D ad cI sd M (k : Int) h (by omega) (by omega)) (hK.cV 2 tw_386 tw_383 tw_3 tw_385 ts_19 (by decide +kernel) rfl rfl ⟨Nat.le_of_ble_eq_true rfl, Nat.le_of_ble_eq_true rfl⟩) hK hX hS rfl rfl rfl hl.1 rfl (Nat.le_of_ble_eq_true rfl) d_Do_towards_30 ⟨Nat.zero_le _, Nat.zero_le _⟩ (fun z u H locs rg_7 hp hX hS => ?_)
          obtain ⟨hz, hu⟩ := hp
          rw [hu] at hX
          have hz : z = (xSide M (k : Int) h) := hz
          subst hz
          refine lv_istore (lv' := [(5, .int (zI (xSide M (k : Int) h))), (4, .int (zI ((k : Int)))), (3, .int (zI (M 15 (h * 12 + g)))), (0, .ref (ad 2)), (1, .int (zI (h))), (2, .int (zI (g)))]) hx hb d_Do_towards_33 hl (by decide) rfl (fun ls hl => ?_)
          refine lv_iload hx hb d_Do_towards_35 (lv_at hl 0 rfl) ?_
          refine z_const hx hb d_Do_towards_37 ?_
          refine z_icmp_eq (a := xSide M (k : Int) h) (b := -1) (tgt := 55) hx hb d_Do_towards_38 (by decide) (by omega) (fun hb_8 => ?_) (fun hb_9 => ?_)
          · skip
            refine z_iinc (lv' := [(4, .int (zI ((k : Int) + 1))), (5, .int (zI (xSide M (k : Int) h))), (3, .int (zI (M 15 (h * 12 + g)))), (0, .ref (ad 2)), (1, .int (zI (h))), (2, .int (zI (g)))]) hx hb d_Do_towards_55 hl (k := 1) rfl (by decide) rfl (fun ls hl => ?_)
            refine lv_goto (tgt := 10) hx hb d_Do_towards_58 (by decide) ?_
            exact ih10 (k + 1) _ _ _ ⟨by omega, by rw [hI10.2, if_pos (by omega), if_pos (by omega), show (M 2 0).toNat - k = ((M 2 0).toNat - (k + 1)) + 1 by omega, xTowN, if_neg (by omega)]; rfl⟩ (by omega) hX hS (lv_sub hl [0, 2, 3, 4, 5] rfl)
          · skip
            refine lv_aload_n hx hb d_Do_towards_41 rfl (lv_at hl 3 rfl) ?_
            refine lv_iload hx hb d_Do_towards_42 (lv_at hl 0 rfl) ?_
            refine lv_iload_n hx hb d_Do_towards_44 rfl (lv_at hl 5 rfl) ?_
            refine z_callVi hF (k_Do_steps l D ad cI sd M (xSide M (k : Int) h) g (by have h9 := h4 k (by omega) (by omega); have e9 := xSide_or M k h; omega) (by omega)) (hK.cV 2 tw_312 tw_309 tw_3 tw_311 ts_7 (by decide +kernel) rfl rfl ⟨Nat.le_of_ble_eq_true rfl, Nat.le_of_ble_eq_true rfl⟩) hK hX hS rfl rfl rfl hl.1 rfl (Nat.le_of_ble_eq_true rfl) d_Do_towards_45 ⟨Nat.zero_le _, Nat.zero_le _⟩ (fun z u H locs rg_10 hp hX hS => ?_)
            obtain ⟨hz, hu⟩ := hp
            rw [hu] at hX
            have hz : z = (M 15 ((xSide M (k : Int) h) * 12 + g)) := hz
            subst hz
            refine lv_iload_n hx hb d_Do_towards_48 rfl (lv_at hl 2 rfl) ?_
            refine z_icmp_ge (a := (M 15 ((xSide M (k : Int) h) * 12 + g))) (b := M 15 (h * 12 + g)) (tgt := 55) hx hb d_Do_towards_49 (by decide) (by omega) (fun hb_11 => ?_) (fun hb_12 => ?_)
            · skip
              refine z_iinc (lv' := [(4, .int (zI ((k : Int) + 1))), (5, .int (zI (xSide M (k : Int) h))), (3, .int (zI (M 15 (h * 12 + g)))), (0, .ref (ad 2)), (1, .int (zI (h))), (2, .int (zI (g)))]) hx hb d_Do_towards_55 hl (k := 1) rfl (by decide) rfl (fun ls hl => ?_)
              refine lv_goto (tgt := 10) hx hb d_Do_towards_58 (by decide) ?_
              exact ih10 (k + 1) _ _ _ ⟨by omega, by rw [hI10.2, if_pos (by omega), if_pos (by omega), show (M 2 0).toNat - k = ((M 2 0).toNat - (k + 1)) + 1 by omega, xTowN, if_neg (by omega)]; rfl⟩ (by omega) hX hS (lv_sub hl [0, 2, 3, 4, 5] rfl)
            · skip
              refine lv_iload hx hb d_Do_towards_52 (lv_at hl 1 rfl) ?_
              exact z_iret (z := (k : Int)) (post := fun z u => z = (xTow M h g) ∧ u = M) hx hb hr hlk hK hX hS (by omega) ⟨by first | (rw [hI10.2, show (M 2 0).toNat - k = 0 by omega]; simp [xTowN]; done) | (rw [hI10.2, if_neg (by omega)]; done) | (rw [hI10.2, if_pos (by omega), show (M 2 0).toNat - k = ((M 2 0).toNat - (k + 1)) + 1 by omega, xTowN, if_pos (by omega)]; done), rfl⟩ d_Do_towards_54
  exact loop10 _ 0 _ _ _ ⟨by omega, rfl⟩ (Nat.lt_succ_self _) hX hS (lv_sub hl [0, 1, 2, 3, 4] rfl)
set_option maxHeartbeats 4000000 in
set_option maxRecDepth 100000 in
theorem k_Tr_placeBehind (l : Launch) (D : va_G) (ad : Nat → Nat) (cI : Nat → ClassId) (sd : Int64) (M : zM) (p1 t : Int) (h1 : 0 ≤ p1 ∧ p1 < 60) (h2 : 0 ≤ M 16 p1 ∧ M 16 p1 ≤ 46) (h3 : -2147483648 ≤ t ∧ t ≤ 2147483647) : zMi l y_Tr_placeBehind (.code y_Tr_placeBehind c_Tr_placeBehind 4 (some .int)) { frames := 0, cells := 0, slots := 0, locals := 0 } D (xL sd) ad cI M [.ref (ad 3), .int (zI (p1)), .int (zI (t))] (fun z u => z = (xBeh M p1 t) ∧ u = M) := by
  refine z_of (cc := c_Tr_placeBehind) (maxL := 4) (ret := some .int) (own := "PersonSeeds$Trails") (by decide) rfl rfl (Nat.le_of_ble_eq_true rfl) ?_
  intro p e s m below meth c ls hF hr hX hK hl
  obtain ⟨hx, hb, hml, hown, hlk⟩ := id hF
  have hS : va_S (zA ad (xL sd)) s.heap s.heap [] := va_S.rf
  have hl : lv_has ls 4 [(0, .ref (ad 3)), (1, .int (zI (p1))), (2, .int (zI (t)))] := hl
  refine lv_aload_n hx hb d_Tr_placeBehind_0 rfl (lv_at hl 0 rfl) ?_
  refine z_getr hx hb iw_Tr hown hK hX 3 rfl rfl 0 (by decide) tw_92 (fun _ h => h) 16 rfl d_Tr_placeBehind_1 ?_
  refine lv_iload_n hx hb d_Tr_placeBehind_4 rfl (lv_at hl 1 rfl) ?_
  refine z_iald (i := p1) (v := M 16 p1) hx hb hK hX 16 rfl (by omega) (by decide) rfl d_Tr_placeBehind_5 (fun rg_1 => ?_)
  refine z_const hx hb d_Tr_placeBehind_6 ?_
  refine z_isub hx hb d_Tr_placeBehind_7 ?_
  refine lv_istore_n (lv' := [(3, .int (zI ((M 16 p1) - 1))), (0, .ref (ad 3)), (1, .int (zI (p1))), (2, .int (zI (t)))]) hx hb d_Tr_placeBehind_8 rfl hl (by decide) rfl (fun ls hl => ?_)
  have loop9 : ∀ (n9 : Nat) (i : Int) (H : Heap) (locs : List Loc) (ls : Array Slot), (-1 ≤ i ∧ i < 46 ∧ xBeh M p1 t = xBehN M p1 t (i + 1).toNat) → (i + 1).toNat < n9 → zX D (xL sd) ad cI M H → va_S (zA ad (xL sd)) s.heap H locs → lv_has ls 4 [(3, .int (zI (i))), (0, .ref (ad 3)), (1, .int (zI (p1))), (2, .int (zI (t)))] → W p l e { frames := 0, cells := 0, slots := 0, locals := 0 } s m ([.ref (ad 3), .int (zI (p1)), .int (zI (t))] : List Value).toArray below meth c H locs 0 0 (MQ below (zQi D (xL sd) ad cI (fun z u => z = (xBeh M p1 t) ∧ u = M)) ([.ref (ad 3), .int (zI (p1)), .int (zI (t))] : List Value).toArray s 0 0 (zA ad (xL sd))) (F0 m 9 ls []) := by
    intro n9
    induction n9 with
    | zero => intro i H locs ls hI hn; exact absurd hn (Nat.not_lt_zero _)
    | succ n9 ih9 =>
      intro i H locs ls hI9 hn9 hX hS hl
      refine lv_iload_n hx hb d_Tr_placeBehind_9 rfl (lv_at hl 0 rfl) ?_
      refine z_if_lt (a := i) (tgt := 46) hx hb d_Tr_placeBehind_10 (by decide) (by omega) (fun hb_2 => ?_) (fun hb_3 => ?_)
      · skip
        refine z_const hx hb d_Tr_placeBehind_46 ?_
        exact z_iret (z := -1) (post := fun z u => z = (xBeh M p1 t) ∧ u = M) hx hb hr hlk hK hX hS (by omega) ⟨by first | (rw [hI9.2.2, show (i + 1).toNat = 0 by omega]; rfl) | (rw [hI9.2.2, show (i + 1).toNat = i.toNat + 1 by omega, xBehN, show ((i.toNat : Nat) : Int) = i by omega, if_pos (by omega)]; done), rfl⟩ d_Tr_placeBehind_47
      · skip
        refine lv_aload_n hx hb d_Tr_placeBehind_13 rfl (lv_at hl 1 rfl) ?_
        refine z_getr hx hb iw_Tr hown hK hX 3 rfl rfl 1 (by decide) tw_93 (fun _ h => h) 17 rfl d_Tr_placeBehind_14 ?_
        refine lv_iload_n hx hb d_Tr_placeBehind_17 rfl (lv_at hl 2 rfl) ?_
        refine z_bipush hx hb d_Tr_placeBehind_18 (by decide) ?_
        refine z_imul hx hb d_Tr_placeBehind_20 ?_
        refine lv_iload_n hx hb d_Tr_placeBehind_21 rfl (lv_at hl 0 rfl) ?_
        refine z_iadd hx hb d_Tr_placeBehind_22 ?_
        refine z_iald (i := (p1 * 46) + i) (v := M 17 ((p1 * 46) + i)) hx hb hK hX 17 rfl (by omega) (by decide) rfl d_Tr_placeBehind_23 (fun rg_4 => ?_)
        refine lv_iload_n hx hb d_Tr_placeBehind_24 rfl (lv_at hl 3 rfl) ?_
        refine z_icmp_gt (a := M 17 ((p1 * 46) + i)) (b := t) (tgt := 40) hx hb d_Tr_placeBehind_25 (by decide) (by omega) (fun hb_5 => ?_) (fun hb_6 => ?_)
        · skip
          refine z_iinc (lv' := [(3, .int (zI (i + (-1)))), (0, .ref (ad 3)), (1, .int (zI (p1))), (2, .int (zI (t)))]) hx hb d_Tr_placeBehind_40 hl (k := 0) rfl (by decide) rfl (fun ls hl => ?_)
          refine lv_goto (tgt := 9) hx hb d_Tr_placeBehind_43 (by decide) ?_
          exact ih9 (i + (-1)) _ _ _ ⟨by omega, by omega, by rw [hI9.2.2, show (i + 1).toNat = i.toNat + 1 by omega, xBehN, show ((i.toNat : Nat) : Int) = i by omega, if_neg (by omega), show (i + (-1) + 1).toNat = i.toNat by omega]⟩ (by omega) hX hS (lv_sub hl [0, 1, 2, 3] rfl)
        · skip
          refine lv_aload_n hx hb d_Tr_placeBehind_28 rfl (lv_at hl 1 rfl) ?_
          refine z_getr hx hb iw_Tr hown hK hX 3 rfl rfl 2 (by decide) tw_94 (fun _ h => h) 18 rfl d_Tr_placeBehind_29 ?_
          refine lv_iload_n hx hb d_Tr_placeBehind_32 rfl (lv_at hl 2 rfl) ?_
          refine z_bipush hx hb d_Tr_placeBehind_33 (by decide) ?_
          refine z_imul hx hb d_Tr_placeBehind_35 ?_
          refine lv_iload_n hx hb d_Tr_placeBehind_36 rfl (lv_at hl 0 rfl) ?_
          refine z_iadd hx hb d_Tr_placeBehind_37 ?_
          refine z_iald (i := (p1 * 46) + i) (v := M 18 ((p1 * 46) + i)) hx hb hK hX 18 rfl (by omega) (by decide) rfl d_Tr_placeBehind_38 (fun rg_7 => ?_)
          exact z_iret (z := M 18 ((p1 * 46) + i)) (post := fun z u => z = (xBeh M p1 t) ∧ u = M) hx hb hr hlk hK hX hS (by omega) ⟨by first | (rw [hI9.2.2, show (i + 1).toNat = 0 by omega]; rfl) | (rw [hI9.2.2, show (i + 1).toNat = i.toNat + 1 by omega, xBehN, show ((i.toNat : Nat) : Int) = i by omega, if_pos (by omega)]; done), rfl⟩ d_Tr_placeBehind_39
  exact loop9 _ (M 16 p1 - 1) _ _ _ ⟨by omega, by omega, by unfold xBeh; rw [show M 16 p1 - 1 + 1 = M 16 p1 by omega]⟩ (Nat.lt_succ_self _) hX hS (lv_sub hl [0, 1, 2, 3] rfl)
set_option maxHeartbeats 4000000 in
set_option maxRecDepth 100000 in
theorem k_Tr_firstJoining (l : Launch) (D : va_G) (ad : Nat → Nat) (cI : Nat → ClassId) (sd : Int64) (M : zM) (p1 o : Int) (h1 : 0 ≤ p1 ∧ p1 < 60) (h2 : 0 ≤ o ∧ o < 60) (h3 : 0 ≤ M 16 p1 ∧ M 16 p1 ≤ 46) (h4 : 0 ≤ M 16 o ∧ M 16 o ≤ 46) : zMi l y_Tr_firstJoining (.code y_Tr_firstJoining c_Tr_firstJoining 6 (some .int)) { frames := 1, cells := 0, slots := 0, locals := 23 } D (xL sd) ad cI M [.ref (ad 3), .int (zI (p1)), .int (zI (o))] (fun z u => z = (xJoin M p1 o) ∧ u = M) := by
  refine z_of (cc := c_Tr_firstJoining) (maxL := 6) (ret := some .int) (own := "PersonSeeds$Trails") (by decide) rfl rfl (Nat.le_of_ble_eq_true rfl) ?_
  intro p e s m below meth c ls hF hr hX hK hl
  obtain ⟨hx, hb, hml, hown, hlk⟩ := id hF
  have hS : va_S (zA ad (xL sd)) s.heap s.heap [] := va_S.rf
  have hl : lv_has ls 6 [(0, .ref (ad 3)), (1, .int (zI (p1))), (2, .int (zI (o)))] := hl
  refine z_const hx hb d_Tr_firstJoining_0 ?_
  refine lv_istore_n (lv' := [(3, .int (zI (0))), (0, .ref (ad 3)), (1, .int (zI (p1))), (2, .int (zI (o)))]) hx hb d_Tr_firstJoining_1 rfl hl (by decide) rfl (fun ls hl => ?_)
  have loop2 : ∀ (n2 : Nat) (k : Nat) (H : Heap) (locs : List Loc) (ls : Array Slot), ((k : Int) ≤ M 16 p1 ∧ xJoin M p1 o = xJoinN M p1 o ((M 16 p1).toNat - k) k) → (M 16 p1).toNat - k < n2 → zX D (xL sd) ad cI M H → va_S (zA ad (xL sd)) s.heap H locs → lv_has ls 6 [(3, .int (zI ((k : Int)))), (0, .ref (ad 3)), (1, .int (zI (p1))), (2, .int (zI (o)))] → W p l e { frames := 1, cells := 0, slots := 0, locals := 23 } s m ([.ref (ad 3), .int (zI (p1)), .int (zI (o))] : List Value).toArray below meth c H locs 0 0 (MQ below (zQi D (xL sd) ad cI (fun z u => z = (xJoin M p1 o) ∧ u = M)) ([.ref (ad 3), .int (zI (p1)), .int (zI (o))] : List Value).toArray s 0 0 (zA ad (xL sd))) (F0 m 2 ls []) := by
    intro n2
    induction n2 with
    | zero => intro k H locs ls hI hn; exact absurd hn (Nat.not_lt_zero _)
    | succ n2 ih2 =>
      intro k H locs ls hI2 hn2 hX hS hl
      refine lv_iload_n hx hb d_Tr_firstJoining_2 rfl (lv_at hl 0 rfl) ?_
      refine lv_aload_n hx hb d_Tr_firstJoining_3 rfl (lv_at hl 1 rfl) ?_
      refine z_getr hx hb iw_Tr hown hK hX 3 rfl rfl 0 (by decide) tw_92 (fun _ h => h) 16 rfl d_Tr_firstJoining_4 ?_
      refine lv_iload_n hx hb d_Tr_firstJoining_7 rfl (lv_at hl 2 rfl) ?_
      refine z_iald (i := p1) (v := M 16 p1) hx hb hK hX 16 rfl (by omega) (by decide) rfl d_Tr_firstJoining_8 (fun rg_1 => ?_)
      refine z_icmp_ge (a := (k : Int)) (b := M 16 p1) (tgt := 65) hx hb d_Tr_firstJoining_9 (by decide) (by omega) (fun hb_2 => ?_) (fun hb_3 => ?_)
      · skip
        refine z_const hx hb d_Tr_firstJoining_65 ?_
        exact z_iret (z := -1) (post := fun z u => z = (xJoin M p1 o) ∧ u = M) hx hb hr hlk hK hX hS (by omega) ⟨by first | (rw [hI2.2, show (M 16 p1).toNat - k = 0 by omega]; rfl) | (rw [hI2.2, show (M 16 p1).toNat - k = ((M 16 p1).toNat - (k + 1)) + 1 by omega, xJoinN, if_pos (by omega)]; done), rfl⟩ d_Tr_firstJoining_66
      · skip
        refine lv_aload_n hx hb d_Tr_firstJoining_12 rfl (lv_at hl 1 rfl) ?_
        refine z_getr hx hb iw_Tr hown hK hX 3 rfl rfl 1 (by decide) tw_93 (fun _ h => h) 17 rfl d_Tr_firstJoining_13 ?_
        refine lv_iload_n hx hb d_Tr_firstJoining_16 rfl (lv_at hl 2 rfl) ?_
        refine z_bipush hx hb d_Tr_firstJoining_17 (by decide) ?_
        refine z_imul hx hb d_Tr_firstJoining_19 ?_
        refine lv_iload_n hx hb d_Tr_firstJoining_20 rfl (lv_at hl 0 rfl) ?_
        refine z_iadd hx hb d_Tr_firstJoining_21 ?_
        refine z_iald (i := (p1 * 46) + (k : Int)) (v := M 17 ((p1 * 46) + (k : Int))) hx hb hK hX 17 rfl (by omega) (by decide) rfl d_Tr_firstJoining_22 (fun rg_4 => ?_)
        refine lv_istore (lv' := [(4, .int (zI (M 17 ((p1 * 46) + (k : Int))))), (3, .int (zI ((k : Int)))), (0, .ref (ad 3)), (1, .int (zI (p1))), (2, .int (zI (o)))]) hx hb d_Tr_firstJoining_23 hl (by decide) rfl (fun ls hl => ?_)
        refine lv_aload_n hx hb d_Tr_firstJoining_25 rfl (lv_at hl 2 rfl) ?_
        refine z_getr hx hb iw_Tr hown hK hX 3 rfl rfl 2 (by decide) tw_94 (fun _ h => h) 18 rfl d_Tr_firstJoining_26 ?_
        refine lv_iload_n hx hb d_Tr_firstJoining_29 rfl (lv_at hl 3 rfl) ?_
        refine z_bipush hx hb d_Tr_firstJoining_30 (by decide) ?_
        refine z_imul hx hb d_Tr_firstJoining_32 ?_
        refine lv_iload_n hx hb d_Tr_firstJoining_33 rfl (lv_at hl 1 rfl) ?_
        refine z_iadd hx hb d_Tr_firstJoining_34 ?_
        refine z_iald (i := (p1 * 46) + (k : Int)) (v := M 18 ((p1 * 46) + (k : Int))) hx hb hK hX 18 rfl (by omega) (by decide) rfl d_Tr_firstJoining_35 (fun rg_5 => ?_)
        refine lv_istore (lv' := [(5, .int (zI (M 18 ((p1 * 46) + (k : Int))))), (4, .int (zI (M 17 ((p1 * 46) + (k : Int))))), (3, .int (zI ((k : Int)))), (0, .ref (ad 3)), (1, .int (zI (p1))), (2, .int (zI (o)))]) hx hb d_Tr_firstJoining_36 hl (by decide) rfl (fun ls hl => ?_)
        refine lv_iload hx hb d_Tr_firstJoining_38 (lv_at hl 0 rfl) ?_
        refine z_const hx hb d_Tr_firstJoining_40 ?_
        refine z_icmp_eq (a := M 18 ((p1 * 46) + (k : Int))) (b := -1) (tgt := 59) hx hb d_Tr_firstJoining_41 (by decide) (by omega) (fun hb_6 => ?_) (fun hb_7 => ?_)
        · skip
          refine z_iinc (lv' := [(3, .int (zI ((k : Int) + 1))), (5, .int (zI (M 18 ((p1 * 46) + (k : Int))))), (4, .int (zI (M 17 ((p1 * 46) + (k : Int))))), (0, .ref (ad 3)), (1, .int (zI (p1))), (2, .int (zI (o)))]) hx hb d_Tr_firstJoining_59 hl (k := 2) rfl (by decide) rfl (fun ls hl => ?_)
          refine lv_goto (tgt := 2) hx hb d_Tr_firstJoining_62 (by decide) ?_
          exact ih2 (k + 1) _ _ _ ⟨by omega, by rw [hI2.2, show (M 16 p1).toNat - k = ((M 16 p1).toNat - (k + 1)) + 1 by omega, xJoinN, if_neg (by omega)]; rfl⟩ (by omega) hX hS (lv_sub hl [0, 3, 4, 5] rfl)
        · skip
          refine lv_aload_n hx hb d_Tr_firstJoining_44 rfl (lv_at hl 3 rfl) ?_
          refine lv_iload_n hx hb d_Tr_firstJoining_45 rfl (lv_at hl 5 rfl) ?_
          refine lv_iload hx hb d_Tr_firstJoining_46 (lv_at hl 1 rfl) ?_
          refine z_callVi hF (k_Tr_placeBehind l D ad cI sd M o (M 17 ((p1 * 46) + (k : Int))) (by omega) (by omega) (by omega)) (hK.cV 2 tw_440 tw_488 tw_5 tw_439 ts_26 (by decide +kernel) rfl rfl ⟨Nat.le_of_ble_eq_true rfl, Nat.le_of_ble_eq_true rfl⟩) hK hX hS rfl rfl rfl hl.1 rfl (Nat.le_of_ble_eq_true rfl) d_Tr_firstJoining_48 ⟨Nat.zero_le _, Nat.zero_le _⟩ (fun z u H locs rg_8 hp hX hS => ?_)
          obtain ⟨hz, hu⟩ := hp
          rw [hu] at hX
          have hz : z = (xBeh M o (M 17 ((p1 * 46) + (k : Int)))) := hz
          subst hz
          refine lv_iload hx hb d_Tr_firstJoining_51 (lv_at hl 0 rfl) ?_
          refine z_icmp_ne (a := xBeh M o (M 17 ((p1 * 46) + (k : Int)))) (b := M 18 ((p1 * 46) + (k : Int))) (tgt := 59) hx hb d_Tr_firstJoining_53 (by decide) (by omega) (fun hb_9 => ?_) (fun hb_10 => ?_)
          · skip
            refine z_iinc (lv' := [(3, .int (zI ((k : Int) + 1))), (5, .int (zI (M 18 ((p1 * 46) + (k : Int))))), (4, .int (zI (M 17 ((p1 * 46) + (k : Int))))), (0, .ref (ad 3)), (1, .int (zI (p1))), (2, .int (zI (o)))]) hx hb d_Tr_firstJoining_59 hl (k := 2) rfl (by decide) rfl (fun ls hl => ?_)
            refine lv_goto (tgt := 2) hx hb d_Tr_firstJoining_62 (by decide) ?_
            exact ih2 (k + 1) _ _ _ ⟨by omega, by rw [hI2.2, show (M 16 p1).toNat - k = ((M 16 p1).toNat - (k + 1)) + 1 by omega, xJoinN, if_neg (by omega)]; rfl⟩ (by omega) hX hS (lv_sub hl [0, 3, 4, 5] rfl)
          · skip
            refine lv_iload hx hb d_Tr_firstJoining_56 (lv_at hl 1 rfl) ?_
            exact z_iret (z := M 17 ((p1 * 46) + (k : Int))) (post := fun z u => z = (xJoin M p1 o) ∧ u = M) hx hb hr hlk hK hX hS (by omega) ⟨by first | (rw [hI2.2, show (M 16 p1).toNat - k = 0 by omega]; rfl) | (rw [hI2.2, show (M 16 p1).toNat - k = ((M 16 p1).toNat - (k + 1)) + 1 by omega, xJoinN, if_pos (by omega)]; done), rfl⟩ d_Tr_firstJoining_58
  exact loop2 _ 0 _ _ _ ⟨by omega, rfl⟩ (Nat.lt_succ_self _) hX hS (lv_sub hl [0, 1, 2, 3] rfl)
end
section
set_option maxHeartbeats 4000000 in
set_option maxRecDepth 100000 in
theorem k_Do_shorten (l : Launch) (D : va_G) (ad : Nat → Nat) (cI : Nat → ClassId) (sd : Int64) (M : zM) (a b : Int) (h1 : 0 ≤ a ∧ a < 12) (h2 : 0 ≤ b ∧ b < 12) (h3 : ∀ x, 0 ≤ x → x < 144 → 0 ≤ M 15 x ∧ M 15 x ≤ 1000) : zMv l y_Do_shortenWays (.code y_Do_shortenWays c_Do_shortenWays 8 (none)) { frames := 1, cells := 0, slots := 0, locals := 22 } D (xL sd) ad cI M [.ref (ad 2), .int (zI (a)), .int (zI (b))] (fun u => u = xShN M a b 12) := by
  refine z_of (cc := c_Do_shortenWays) (maxL := 8) (ret := none) (own := "PersonSeeds$Doors") (by decide) rfl rfl (Nat.le_of_ble_eq_true rfl) ?_
  intro p e s m below meth c ls hF hr hX hK hl
  obtain ⟨hx, hb, hml, hown, hlk⟩ := id hF
  have hS : va_S (zA ad (xL sd)) s.heap s.heap [] := va_S.rf
  have hl : lv_has ls 8 [(0, .ref (ad 2)), (1, .int (zI (a))), (2, .int (zI (b)))] := hl
  refine z_const hx hb d_Do_shortenWays_0 ?_
  refine lv_istore_n (lv' := [(3, .int (zI (0))), (0, .ref (ad 2)), (1, .int (zI (a))), (2, .int (zI (b)))]) hx hb d_Do_shortenWays_1 rfl hl (by decide) rfl (fun ls hl => ?_)
  have loop2 : ∀ (n2 : Nat) (i0 : Nat) (H : Heap) (locs : List Loc) (ls : Array Slot), i0 ≤ 12 → 12 - i0 < n2 → zX D (xL sd) ad cI (xShN M a b i0) H → va_S (zA ad (xL sd)) s.heap H locs → lv_has ls 8 [(3, .int (zI ((i0 : Int)))), (0, .ref (ad 2)), (1, .int (zI (a))), (2, .int (zI (b)))] → W p l e { frames := 1, cells := 0, slots := 0, locals := 22 } s m ([.ref (ad 2), .int (zI (a)), .int (zI (b))] : List Value).toArray below meth c H locs 0 0 (MQ below (zQv D (xL sd) ad cI (fun u => u = xShN M a b 12)) ([.ref (ad 2), .int (zI (a)), .int (zI (b))] : List Value).toArray s 0 0 (zA ad (xL sd))) (F0 m 2 ls []) := by
    intro n2
    induction n2 with
    | zero => intro i0 H locs ls hI hn; exact absurd hn (Nat.not_lt_zero _)
    | succ n2 ih2 =>
      intro i0 H locs ls hI2 hn2 hX hS hl
      refine lv_iload_n hx hb d_Do_shortenWays_2 rfl (lv_at hl 0 rfl) ?_
      refine z_bipush hx hb d_Do_shortenWays_3 (by decide) ?_
      refine z_icmp_ge (a := (i0 : Int)) (b := 12) (tgt := 99) hx hb d_Do_shortenWays_5 (by decide) (by omega) (fun hb_1 => ?_) (fun hb_2 => ?_)
      · skip
        exact z_vret (post := fun u => u = xShN M a b 12) hx hb hr hlk hK hX hS (by rw [show i0 = 12 by omega]) d_Do_shortenWays_99
      · skip
        refine z_const hx hb d_Do_shortenWays_8 ?_
        refine lv_istore (lv' := [(4, .int (zI (0))), (3, .int (zI ((i0 : Int)))), (0, .ref (ad 2)), (1, .int (zI (a))), (2, .int (zI (b)))]) hx hb d_Do_shortenWays_9 hl (by decide) rfl (fun ls hl => ?_)
        have loop11 : ∀ (n11 : Nat) (j0 : Nat) (H : Heap) (locs : List Loc) (ls : Array Slot), j0 ≤ 12 → 12 - j0 < n11 → zX D (xL sd) ad cI (xShR (xShN M a b i0) a b i0 j0) H → va_S (zA ad (xL sd)) s.heap H locs → lv_has ls 8 [(4, .int (zI ((j0 : Int)))), (3, .int (zI ((i0 : Int)))), (0, .ref (ad 2)), (1, .int (zI (a))), (2, .int (zI (b)))] → W p l e { frames := 1, cells := 0, slots := 0, locals := 22 } s m ([.ref (ad 2), .int (zI (a)), .int (zI (b))] : List Value).toArray below meth c H locs 0 0 (MQ below (zQv D (xL sd) ad cI (fun u => u = xShN M a b 12)) ([.ref (ad 2), .int (zI (a)), .int (zI (b))] : List Value).toArray s 0 0 (zA ad (xL sd))) (F0 m 11 ls []) := by
          intro n11
          induction n11 with
          | zero => intro j0 H locs ls hI hn; exact absurd hn (Nat.not_lt_zero _)
          | succ n11 ih11 =>
            intro j0 H locs ls hI11 hn11 hX hS hl
            have hq := xShR_b (M := xShN M a b i0) (xShN_b h3 h1 h2 i0 (by omega)) (a := a) (b := b) (i := (i0 : Int)) h1 h2 (by omega) j0 hI11
            generalize hMq : xShR (xShN M a b i0) a b i0 j0 = Mq at hX hq
            have q1 := hq ((i0 : Int) * 12 + a) (by omega) (by omega)
            have q2 := hq ((i0 : Int) * 12 + b) (by omega) (by omega)
            have q3 : (j0 : Int) < 12 → 0 ≤ Mq 15 (a * 12 + (j0 : Int)) ∧ Mq 15 (a * 12 + (j0 : Int)) ≤ 1000 := fun h9 => hq _ (by omega) (by omega)
            have q4 : (j0 : Int) < 12 → 0 ≤ Mq 15 (b * 12 + (j0 : Int)) ∧ Mq 15 (b * 12 + (j0 : Int)) ≤ 1000 := fun h9 => hq _ (by omega) (by omega)
            have q5 : (j0 : Int) < 12 → 0 ≤ Mq 15 ((i0 : Int) * 12 + (j0 : Int)) ∧ Mq 15 ((i0 : Int) * 12 + (j0 : Int)) ≤ 1000 := fun h9 => hq _ (by omega) (by omega)
            refine lv_iload hx hb d_Do_shortenWays_11 (lv_at hl 0 rfl) ?_
            refine z_bipush hx hb d_Do_shortenWays_13 (by decide) ?_
            refine z_icmp_ge (a := (j0 : Int)) (b := 12) (tgt := 93) hx hb d_Do_shortenWays_15 (by decide) (by omega) (fun hb_3 => ?_) (fun hb_4 => ?_)
            · skip
              refine z_iinc (lv' := [(3, .int (zI ((i0 : Int) + 1))), (4, .int (zI ((j0 : Int)))), (0, .ref (ad 2)), (1, .int (zI (a))), (2, .int (zI (b)))]) hx hb d_Do_shortenWays_93 hl (k := 1) rfl (by decide) rfl (fun ls hl => ?_)
              refine lv_goto (tgt := 2) hx hb d_Do_shortenWays_96 (by decide) ?_
              exact ih2 (i0 + 1) _ _ _ (by omega) (by omega) (by have e9 : xShN M a b (i0 + 1) = Mq := (by rw [← hMq, show j0 = 12 by omega]; rfl); rw [e9]; exact hX) hS (lv_sub hl [0, 2, 3, 4] rfl)
            · skip
              refine lv_aload_n hx hb d_Do_shortenWays_18 rfl (lv_at hl 2 rfl) ?_
              refine lv_iload_n hx hb d_Do_shortenWays_19 rfl (lv_at hl 1 rfl) ?_
              refine lv_iload_n hx hb d_Do_shortenWays_20 rfl (lv_at hl 3 rfl) ?_
              refine z_callVi hF (k_Do_steps l D ad cI sd Mq (i0 : Int) a (by omega) (by omega)) (hK.cV 2 tw_312 tw_309 tw_3 tw_311 ts_7 (by decide +kernel) rfl rfl ⟨Nat.le_of_ble_eq_true rfl, Nat.le_of_ble_eq_true rfl⟩) hK hX hS rfl rfl rfl hl.1 rfl (Nat.le_of_ble_eq_true rfl) d_Do_shortenWays_21 ⟨Nat.zero_le _, Nat.zero_le _⟩ (fun z u H locs rg_5 hp hX hS => ?_)
              obtain ⟨hz, hu⟩ := hp
              rw [hu] at hX
              have hz : z = (Mq 15 ((i0 : Int) * 12 + a)) := hz
              subst hz
              refine z_const hx hb d_Do_shortenWays_24 ?_
              refine z_iadd hx hb d_Do_shortenWays_25 ?_
              refine lv_aload_n hx hb d_Do_shortenWays_26 rfl (lv_at hl 2 rfl) ?_
              refine lv_iload_n hx hb d_Do_shortenWays_27 rfl (lv_at hl 4 rfl) ?_
              refine lv_iload hx hb d_Do_shortenWays_28 (lv_at hl 0 rfl) ?_
              refine z_callVi hF (k_Do_steps l D ad cI sd Mq b (j0 : Int) (by omega) (by omega)) (hK.cV 2 tw_312 tw_309 tw_3 tw_311 ts_7 (by decide +kernel) rfl rfl ⟨Nat.le_of_ble_eq_true rfl, Nat.le_of_ble_eq_true rfl⟩) hK hX hS rfl rfl rfl hl.1 rfl (Nat.le_of_ble_eq_true rfl) d_Do_shortenWays_30 ⟨Nat.zero_le _, Nat.zero_le _⟩ (fun z u H locs rg_6 hp hX hS => ?_)
              obtain ⟨hz, hu⟩ := hp
              rw [hu] at hX
              have hz : z = (Mq 15 (b * 12 + (j0 : Int))) := hz
              subst hz
              refine z_iadd hx hb d_Do_shortenWays_33 ?_
              refine lv_istore (lv' := [(5, .int (zI (((Mq 15 ((i0 : Int) * 12 + a)) + 1) + (Mq 15 (b * 12 + (j0 : Int)))))), (4, .int (zI ((j0 : Int)))), (3, .int (zI ((i0 : Int)))), (0, .ref (ad 2)), (1, .int (zI (a))), (2, .int (zI (b)))]) hx hb d_Do_shortenWays_34 hl (by decide) rfl (fun ls hl => ?_)
              refine lv_aload_n hx hb d_Do_shortenWays_36 rfl (lv_at hl 3 rfl) ?_
              refine lv_iload_n hx hb d_Do_shortenWays_37 rfl (lv_at hl 2 rfl) ?_
              refine lv_iload_n hx hb d_Do_shortenWays_38 rfl (lv_at hl 5 rfl) ?_
              refine z_callVi hF (k_Do_steps l D ad cI sd Mq (i0 : Int) b (by omega) (by omega)) (hK.cV 2 tw_312 tw_309 tw_3 tw_311 ts_7 (by decide +kernel) rfl rfl ⟨Nat.le_of_ble_eq_true rfl, Nat.le_of_ble_eq_true rfl⟩) hK hX hS rfl rfl rfl hl.1 rfl (Nat.le_of_ble_eq_true rfl) d_Do_shortenWays_39 ⟨Nat.zero_le _, Nat.zero_le _⟩ (fun z u H locs rg_7 hp hX hS => ?_)
              obtain ⟨hz, hu⟩ := hp
              rw [hu] at hX
              have hz : z = (Mq 15 ((i0 : Int) * 12 + b)) := hz
              subst hz
              refine z_const hx hb d_Do_shortenWays_42 ?_
              refine z_iadd hx hb d_Do_shortenWays_43 ?_
              refine lv_aload_n hx hb d_Do_shortenWays_44 rfl (lv_at hl 3 rfl) ?_
              refine lv_iload_n hx hb d_Do_shortenWays_45 rfl (lv_at hl 4 rfl) ?_
              refine lv_iload hx hb d_Do_shortenWays_46 (lv_at hl 1 rfl) ?_
              refine z_callVi hF (k_Do_steps l D ad cI sd Mq a (j0 : Int) (by omega) (by omega)) (hK.cV 2 tw_312 tw_309 tw_3 tw_311 ts_7 (by decide +kernel) rfl rfl ⟨Nat.le_of_ble_eq_true rfl, Nat.le_of_ble_eq_true rfl⟩) hK hX hS rfl rfl rfl hl.1 rfl (Nat.le_of_ble_eq_true rfl) d_Do_shortenWays_48 ⟨Nat.zero_le _, Nat.zero_le _⟩ (fun z u H locs rg_8 hp hX hS => ?_)
              obtain ⟨hz, hu⟩ := hp
              rw [hu] at hX
              have hz : z = (Mq 15 (a * 12 + (j0 : Int))) := hz
              subst hz
              refine z_iadd hx hb d_Do_shortenWays_51 ?_
              refine lv_istore (lv' := [(6, .int (zI (((Mq 15 ((i0 : Int) * 12 + b)) + 1) + (Mq 15 (a * 12 + (j0 : Int)))))), (5, .int (zI (((Mq 15 ((i0 : Int) * 12 + a)) + 1) + (Mq 15 (b * 12 + (j0 : Int)))))), (4, .int (zI ((j0 : Int)))), (3, .int (zI ((i0 : Int)))), (0, .ref (ad 2)), (1, .int (zI (a))), (2, .int (zI (b)))]) hx hb d_Do_shortenWays_52 hl (by decide) rfl (fun ls hl => ?_)
              refine lv_iload hx hb d_Do_shortenWays_54 (lv_at hl 1 rfl) ?_
              refine lv_iload hx hb d_Do_shortenWays_56 (lv_at hl 0 rfl) ?_
              refine z_mmin (a := ((Mq 15 ((i0 : Int) * 12 + a)) + 1) + (Mq 15 (b * 12 + (j0 : Int)))) (b := ((Mq 15 ((i0 : Int) * 12 + b)) + 1) + (Mq 15 (a * 12 + (j0 : Int)))) hx hb (hml.trans hl.1.symm) hown hK tw_313 tw_314 tw_13 tw_315 (Nat.le_of_ble_eq_true rfl) (Nat.le_of_ble_eq_true rfl) (Nat.zero_le _) (Nat.zero_le _) (by omega) d_Do_shortenWays_58 ?_
              refine lv_istore (lv' := [(7, .int (zI (min (((Mq 15 ((i0 : Int) * 12 + a)) + 1) + (Mq 15 (b * 12 + (j0 : Int)))) (((Mq 15 ((i0 : Int) * 12 + b)) + 1) + (Mq 15 (a * 12 + (j0 : Int))))))), (6, .int (zI (((Mq 15 ((i0 : Int) * 12 + b)) + 1) + (Mq 15 (a * 12 + (j0 : Int)))))), (5, .int (zI (((Mq 15 ((i0 : Int) * 12 + a)) + 1) + (Mq 15 (b * 12 + (j0 : Int)))))), (4, .int (zI ((j0 : Int)))), (3, .int (zI ((i0 : Int)))), (0, .ref (ad 2)), (1, .int (zI (a))), (2, .int (zI (b)))]) hx hb d_Do_shortenWays_61 hl (by decide) rfl (fun ls hl => ?_)
              refine lv_aload_n hx hb d_Do_shortenWays_63 rfl (lv_at hl 5 rfl) ?_
              refine z_getr hx hb iw_Do hown hK hX 2 rfl rfl 7 (by decide) tw_68 (fun _ h => h) 15 rfl d_Do_shortenWays_64 ?_
              refine lv_iload_n hx hb d_Do_shortenWays_67 rfl (lv_at hl 4 rfl) ?_
              refine z_bipush hx hb d_Do_shortenWays_68 (by decide) ?_
              refine z_imul hx hb d_Do_shortenWays_70 ?_
              refine lv_iload hx hb d_Do_shortenWays_71 (lv_at hl 3 rfl) ?_
              refine z_iadd hx hb d_Do_shortenWays_73 ?_
              refine lv_aload_n hx hb d_Do_shortenWays_74 rfl (lv_at hl 5 rfl) ?_
              refine lv_iload_n hx hb d_Do_shortenWays_75 rfl (lv_at hl 4 rfl) ?_
              refine lv_iload hx hb d_Do_shortenWays_76 (lv_at hl 3 rfl) ?_
              refine z_callVi hF (k_Do_steps l D ad cI sd Mq (i0 : Int) (j0 : Int) (by omega) (by omega)) (hK.cV 2 tw_312 tw_309 tw_3 tw_311 ts_7 (by decide +kernel) rfl rfl ⟨Nat.le_of_ble_eq_true rfl, Nat.le_of_ble_eq_true rfl⟩) hK hX hS rfl rfl rfl hl.1 rfl (Nat.le_of_ble_eq_true rfl) d_Do_shortenWays_78 ⟨Nat.zero_le _, Nat.zero_le _⟩ (fun z u H locs rg_9 hp hX hS => ?_)
              obtain ⟨hz, hu⟩ := hp
              rw [hu] at hX
              have hz : z = (Mq 15 ((i0 : Int) * 12 + (j0 : Int))) := hz
              subst hz
              refine lv_iload hx hb d_Do_shortenWays_81 (lv_at hl 0 rfl) ?_
              refine z_mmin (a := (Mq 15 ((i0 : Int) * 12 + (j0 : Int)))) (b := min (((Mq 15 ((i0 : Int) * 12 + a)) + 1) + (Mq 15 (b * 12 + (j0 : Int)))) (((Mq 15 ((i0 : Int) * 12 + b)) + 1) + (Mq 15 (a * 12 + (j0 : Int))))) hx hb (hml.trans hl.1.symm) hown hK tw_313 tw_314 tw_13 tw_315 (Nat.le_of_ble_eq_true rfl) (Nat.le_of_ble_eq_true rfl) (Nat.zero_le _) (Nat.zero_le _) (by omega) d_Do_shortenWays_83 ?_
              refine z_iast (i := ((i0 : Int) * 12) + (j0 : Int)) (v := min (Mq 15 ((i0 : Int) * 12 + (j0 : Int))) (min (((Mq 15 ((i0 : Int) * 12 + a)) + 1) + (Mq 15 (b * 12 + (j0 : Int)))) (((Mq 15 ((i0 : Int) * 12 + b)) + 1) + (Mq 15 (a * 12 + (j0 : Int)))))) hx hb hK hX hS 15 rfl (by omega) (by decide) (by omega) d_Do_shortenWays_86 (fun H locs hX hS => ?_)
              refine z_iinc (lv' := [(4, .int (zI ((j0 : Int) + 1))), (7, .int (zI (min (((Mq 15 ((i0 : Int) * 12 + a)) + 1) + (Mq 15 (b * 12 + (j0 : Int)))) (((Mq 15 ((i0 : Int) * 12 + b)) + 1) + (Mq 15 (a * 12 + (j0 : Int))))))), (6, .int (zI (((Mq 15 ((i0 : Int) * 12 + b)) + 1) + (Mq 15 (a * 12 + (j0 : Int)))))), (5, .int (zI (((Mq 15 ((i0 : Int) * 12 + a)) + 1) + (Mq 15 (b * 12 + (j0 : Int)))))), (3, .int (zI ((i0 : Int)))), (0, .ref (ad 2)), (1, .int (zI (a))), (2, .int (zI (b)))]) hx hb d_Do_shortenWays_87 hl (k := 3) rfl (by decide) rfl (fun ls hl => ?_)
              refine lv_goto (tgt := 11) hx hb d_Do_shortenWays_90 (by decide) ?_
              exact ih11 (j0 + 1) _ _ _ (by omega) (by omega) (by have e9 : xShR (xShN M a b i0) a b i0 (j0 + 1) = zU Mq 15 (((i0 : Int) * 12) + (j0 : Int)) (min (Mq 15 ((i0 : Int) * 12 + (j0 : Int))) (min (((Mq 15 ((i0 : Int) * 12 + a)) + 1) + (Mq 15 (b * 12 + (j0 : Int)))) (((Mq 15 ((i0 : Int) * 12 + b)) + 1) + (Mq 15 (a * 12 + (j0 : Int)))))) := (by rw [← hMq]; rfl); rw [e9]; exact hX) hS (lv_sub hl [0, 4, 5, 6, 7] rfl)
        exact loop11 _ 0 _ _ _ (by omega) (Nat.lt_succ_self _) hX hS (lv_sub hl [0, 1, 2, 3, 4] rfl)
  exact loop2 _ 0 _ _ _ (by omega) (Nat.lt_succ_self _) hX hS (lv_sub hl [0, 1, 2, 3] rfl)
set_option maxHeartbeats 4000000 in
set_option maxRecDepth 100000 in
theorem k_Pe_drawn (l : Launch) (D : va_G) (ad : Nat → Nat) (cI : Nat → ClassId) (sd : Int64) (M : zM) (p1 k1 m1 : Int) (h1 : 1 ≤ m1 ∧ m1 ≤ 2147483647) : zMi l y_Pe_drawn (.code y_Pe_drawn c_Pe_drawn 6 (some .int)) { frames := 0, cells := 0, slots := 0, locals := 0 } D (xL sd) ad cI M [.ref (ad 4), .int (zI (p1)), .int (zI (k1)), .int (zI (m1))] (fun z u => z = (xDraw sd p1 k1 m1) ∧ u = M) := by
  refine z_of (cc := c_Pe_drawn) (maxL := 6) (ret := some .int) (own := "PersonSeeds$Persons") (by decide) rfl rfl (Nat.le_of_ble_eq_true rfl) ?_
  intro p e s m below meth c ls hF hr hX hK hl
  obtain ⟨hx, hb, hml, hown, hlk⟩ := id hF
  have hS : va_S (zA ad (xL sd)) s.heap s.heap [] := va_S.rf
  have hl : lv_has ls 6 [(0, .ref (ad 4)), (1, .int (zI (p1))), (2, .int (zI (k1))), (3, .int (zI (m1)))] := hl
  refine lv_iload_n hx hb d_Pe_drawn_0 rfl (lv_at hl 3 rfl) ?_
  refine z_const hx hb d_Pe_drawn_1 ?_
  refine z_icmp_ge (a := m1) (b := 1) (tgt := 7) hx hb d_Pe_drawn_2 (by decide) (by omega) (fun hb_1 => ?_) (fun hb_2 => ?_)
  · skip
    refine lv_aload_n hx hb d_Pe_drawn_7 rfl (lv_at hl 0 rfl) ?_
    refine z_getl hx hb iw_Pe hown hK hX 4 rfl rfl 0 (by decide) tw_108 (fun _ h => h) sd rfl d_Pe_drawn_8 ?_
    refine z_ldc2 (v := -7046029254386353131) hx hb hown hK tw_283 d_Pe_drawn_11 ?_
    refine z_bipush hx hb d_Pe_drawn_14 (by decide) ?_
    refine lv_iload_n hx hb d_Pe_drawn_16 rfl (lv_at hl 1 rfl) ?_
    refine z_imul hx hb d_Pe_drawn_17 ?_
    refine lv_iload_n hx hb d_Pe_drawn_18 rfl (lv_at hl 2 rfl) ?_
    refine z_iadd hx hb d_Pe_drawn_19 ?_
    refine z_const hx hb d_Pe_drawn_20 ?_
    refine z_iadd hx hb d_Pe_drawn_21 ?_
    refine lv_i2l hx hb d_Pe_drawn_22 rfl ?_
    refine lv_lmul hx hb d_Pe_drawn_23 ?_
    refine lv_ladd hx hb d_Pe_drawn_24 ?_
    refine lv_lstore (lv' := [(4, .long (sd + ((-7046029254386353131 : Int64) * ((zI (((8 * p1) + k1) + 1)).toInt64)))), (0, .ref (ad 4)), (1, .int (zI (p1))), (2, .int (zI (k1))), (3, .int (zI (m1)))]) hx hb d_Pe_drawn_25 hl (by decide) rfl (fun ls hl => ?_)
    have hl : lv_has ls 6 [(4, .long (xZ0 sd p1 k1)), (0, .ref (ad 4)), (1, .int (zI (p1))), (2, .int (zI (k1))), (3, .int (zI (m1)))] := hl
    refine lv_lload hx hb d_Pe_drawn_27 (lv_at hl 0 rfl) ?_
    refine lv_lload hx hb d_Pe_drawn_29 (lv_at hl 0 rfl) ?_
    refine z_bipush hx hb d_Pe_drawn_31 (by decide) ?_
    refine lv_lushr (v := xSr (xZ0 sd p1 k1) 30) hx hb d_Pe_drawn_33 rfl ?_
    refine lv_lxor hx hb d_Pe_drawn_34 ?_
    refine z_ldc2 (v := -4658895280553007687) hx hb hown hK tw_284 d_Pe_drawn_35 ?_
    refine lv_lmul hx hb d_Pe_drawn_38 ?_
    refine lv_lstore (lv' := [(4, .long (((xZ0 sd p1 k1) ^^^ (xSr (xZ0 sd p1 k1) 30)) * (-4658895280553007687 : Int64))), (0, .ref (ad 4)), (1, .int (zI (p1))), (2, .int (zI (k1))), (3, .int (zI (m1)))]) hx hb d_Pe_drawn_39 hl (by decide) rfl (fun ls hl => ?_)
    have hl : lv_has ls 6 [(4, .long (xZ1 sd p1 k1)), (0, .ref (ad 4)), (1, .int (zI (p1))), (2, .int (zI (k1))), (3, .int (zI (m1)))] := hl
    refine lv_lload hx hb d_Pe_drawn_41 (lv_at hl 0 rfl) ?_
    refine lv_lload hx hb d_Pe_drawn_43 (lv_at hl 0 rfl) ?_
    refine z_bipush hx hb d_Pe_drawn_45 (by decide) ?_
    refine lv_lushr (v := xSr (xZ1 sd p1 k1) 27) hx hb d_Pe_drawn_47 rfl ?_
    refine lv_lxor hx hb d_Pe_drawn_48 ?_
    refine z_ldc2 (v := -7723592293110705685) hx hb hown hK tw_285 d_Pe_drawn_49 ?_
    refine lv_lmul hx hb d_Pe_drawn_52 ?_
    refine lv_lstore (lv' := [(4, .long (((xZ1 sd p1 k1) ^^^ (xSr (xZ1 sd p1 k1) 27)) * (-7723592293110705685 : Int64))), (0, .ref (ad 4)), (1, .int (zI (p1))), (2, .int (zI (k1))), (3, .int (zI (m1)))]) hx hb d_Pe_drawn_53 hl (by decide) rfl (fun ls hl => ?_)
    have hl : lv_has ls 6 [(4, .long (xZ2 sd p1 k1)), (0, .ref (ad 4)), (1, .int (zI (p1))), (2, .int (zI (k1))), (3, .int (zI (m1)))] := hl
    refine lv_lload hx hb d_Pe_drawn_55 (lv_at hl 0 rfl) ?_
    refine lv_lload hx hb d_Pe_drawn_57 (lv_at hl 0 rfl) ?_
    refine z_bipush hx hb d_Pe_drawn_59 (by decide) ?_
    refine lv_lushr (v := xSr (xZ2 sd p1 k1) 31) hx hb d_Pe_drawn_61 rfl ?_
    refine lv_lxor hx hb d_Pe_drawn_62 ?_
    refine lv_lstore (lv' := [(4, .long ((xZ2 sd p1 k1) ^^^ (xSr (xZ2 sd p1 k1) 31))), (0, .ref (ad 4)), (1, .int (zI (p1))), (2, .int (zI (k1))), (3, .int (zI (m1)))]) hx hb d_Pe_drawn_63 hl (by decide) rfl (fun ls hl => ?_)
    have hl : lv_has ls 6 [(4, .long (xZ3 sd p1 k1)), (0, .ref (ad 4)), (1, .int (zI (p1))), (2, .int (zI (k1))), (3, .int (zI (m1)))] := hl
    refine lv_lload hx hb d_Pe_drawn_65 (lv_at hl 0 rfl) ?_
    refine z_const hx hb d_Pe_drawn_67 ?_
    refine lv_lushr (v := xSr (xZ3 sd p1 k1) 1) hx hb d_Pe_drawn_68 rfl ?_
    refine lv_iload_n hx hb d_Pe_drawn_69 rfl (lv_at hl 4 rfl) ?_
    refine lv_i2l hx hb d_Pe_drawn_70 rfl ?_
    refine lv_lrem hx hb d_Pe_drawn_71 (zI_long (by omega)) ?_
    refine lv_l2i hx hb d_Pe_drawn_72 rfl ?_
    refine z_raw ?_
    exact z_iret (z := (((xSr (xZ3 sd p1 k1) 1) - (xSr (xZ3 sd p1 k1) 1) / ((zI (m1)).toInt64) * ((zI (m1)).toInt64)).toInt32).toInt) (post := fun z u => z = (xDraw sd p1 k1 m1) ∧ u = M) hx hb hr hlk hK hX hS (zI_rg _) ⟨rfl, rfl⟩ d_Pe_drawn_73
  · skip
    refine z_const hx hb d_Pe_drawn_5 ?_
    exfalso
    omega
end
section
set_option maxHeartbeats 4000000 in
set_option maxRecDepth 100000 in
theorem k_Pe_plan (l : Launch) (D : va_G) (ad : Nat → Nat) (cI : Nat → ClassId) (sd : Int64) (M : zM) (r : Int) (h1 : 1 ≤ r ∧ r ≤ 12) (h2 : 0 ≤ M 4 1 ∧ M 4 1 ≤ 60) (h3 : ∀ x, 0 ≤ x → x < M 4 1 → 0 ≤ M 19 x ∧ M 19 x ≤ 1439) : zMv l y_Pe_plan (.code y_Pe_plan c_Pe_plan 3 (none)) { frames := 1, cells := 0, slots := 0, locals := 25 } D (xL sd) ad cI M [.ref (ad 4), .int (zI (r))] (fun u => u = xPlan sd M r) := by
  refine z_of (cc := c_Pe_plan) (maxL := 3) (ret := none) (own := "PersonSeeds$Persons") (by decide) rfl rfl (Nat.le_of_ble_eq_true rfl) ?_
  intro p e s m below meth c ls hF hr hX hK hl
  obtain ⟨hx, hb, hml, hown, hlk⟩ := id hF
  have hS : va_S (zA ad (xL sd)) s.heap s.heap [] := va_S.rf
  have hl : lv_has ls 3 [(0, .ref (ad 4)), (1, .int (zI (r)))] := hl
  refine z_const hx hb d_Pe_plan_0 ?_
  refine lv_istore_n (lv' := [(2, .int (zI (0))), (0, .ref (ad 4)), (1, .int (zI (r)))]) hx hb d_Pe_plan_1 rfl hl (by decide) rfl (fun ls hl => ?_)
  have loop2 : ∀ (n2 : Nat) (k : Nat) (H : Heap) (locs : List Loc) (ls : Array Slot), (k : Int) ≤ M 4 1 → (M 4 1).toNat - k < n2 → zX D (xL sd) ad cI (xPlanN sd M r k) H → va_S (zA ad (xL sd)) s.heap H locs → lv_has ls 3 [(2, .int (zI ((k : Int)))), (0, .ref (ad 4)), (1, .int (zI (r)))] → W p l e { frames := 1, cells := 0, slots := 0, locals := 25 } s m ([.ref (ad 4), .int (zI (r))] : List Value).toArray below meth c H locs 0 0 (MQ below (zQv D (xL sd) ad cI (fun u => u = xPlan sd M r)) ([.ref (ad 4), .int (zI (r))] : List Value).toArray s 0 0 (zA ad (xL sd))) (F0 m 2 ls []) := by
    intro n2
    induction n2 with
    | zero => intro k H locs ls hI hn; exact absurd hn (Nat.not_lt_zero _)
    | succ n2 ih2 =>
      intro k H locs ls hI2 hn2 hX hS hl
      have e1 : xPlanN sd M r k 4 = M 4 := xPlanN_c (by decide) (by decide) (by decide) (by decide) (by decide) k
      have e2 : xPlanN sd M r k 19 = M 19 := xPlanN_c (by decide) (by decide) (by decide) (by decide) (by decide) k
      generalize hMq : xPlanN sd M r k = Mq at hX e1 e2
      have e3 : Mq 4 1 = M 4 1 := by rw [e1]
      have e4 : Mq 19 (k : Int) = M 19 (k : Int) := by rw [e2]
      have e5 := h3 (k : Int) (by omega)
      have d0 := xDraw_rg sd (k : Int) 0 (m := r) (by omega)
      obtain ⟨x0, ed0⟩ : ∃ x9, zSame x9 (xDraw sd (k : Int) 0 r) := ⟨_, rfl⟩
      rw [← show x0 = xDraw sd (k : Int) 0 r from ed0] at d0
      have d1 := xDraw_rg sd (k : Int) 1 (m := 90) (by omega)
      obtain ⟨x1, ed1⟩ : ∃ x9, zSame x9 (xDraw sd (k : Int) 1 90) := ⟨_, rfl⟩
      rw [← show x1 = xDraw sd (k : Int) 1 90 from ed1] at d1
      have d2 := xDraw_rg sd (k : Int) 2 (m := 20) (by omega)
      obtain ⟨x2, ed2⟩ : ∃ x9, zSame x9 (xDraw sd (k : Int) 2 20) := ⟨_, rfl⟩
      rw [← show x2 = xDraw sd (k : Int) 2 20 from ed2] at d2
      have d3 := xDraw_rg sd (k : Int) 3 (m := r) (by omega)
      obtain ⟨x3, ed3⟩ : ∃ x9, zSame x9 (xDraw sd (k : Int) 3 r) := ⟨_, rfl⟩
      rw [← show x3 = xDraw sd (k : Int) 3 r from ed3] at d3
      have d4 := xDraw_rg sd (k : Int) 4 (m := 200) (by omega)
      obtain ⟨x4, ed4⟩ : ∃ x9, zSame x9 (xDraw sd (k : Int) 4 200) := ⟨_, rfl⟩
      rw [← show x4 = xDraw sd (k : Int) 4 200 from ed4] at d4
      refine lv_iload_n hx hb d_Pe_plan_2 rfl (lv_at hl 0 rfl) ?_
      refine lv_aload_n hx hb d_Pe_plan_3 rfl (lv_at hl 1 rfl) ?_
      refine z_geti (i := 1) (v := Mq 4 1) hx hb iw_Pe hown hK hX 4 rfl rfl 1 (by decide) tw_109 (fun _ h => h) rfl rfl rfl d_Pe_plan_4 (fun rg_1 => ?_)
      refine z_icmp_ge (a := (k : Int)) (b := Mq 4 1) (tgt := 116) hx hb d_Pe_plan_7 (by decide) (by omega) (fun hb_2 => ?_) (fun hb_3 => ?_)
      · skip
        exact z_vret (post := fun u => u = xPlan sd M r) hx hb hr hlk hK hX hS (by unfold xPlan; rw [← hMq, show k = (M 4 1).toNat by omega]) d_Pe_plan_116
      · skip
        refine lv_aload_n hx hb d_Pe_plan_10 rfl (lv_at hl 1 rfl) ?_
        refine z_getr hx hb iw_Pe hown hK hX 4 rfl rfl 3 (by decide) tw_113 (fun _ h => h) 20 rfl d_Pe_plan_11 ?_
        refine lv_iload_n hx hb d_Pe_plan_14 rfl (lv_at hl 0 rfl) ?_
        refine lv_aload_n hx hb d_Pe_plan_15 rfl (lv_at hl 1 rfl) ?_
        refine lv_iload_n hx hb d_Pe_plan_16 rfl (lv_at hl 0 rfl) ?_
        refine z_const hx hb d_Pe_plan_17 ?_
        refine lv_iload_n hx hb d_Pe_plan_18 rfl (lv_at hl 2 rfl) ?_
        refine z_callVi hF (k_Pe_drawn l D ad cI sd Mq (k : Int) 0 r (by omega)) (hK.cV 3 tw_282 tw_279 tw_6 tw_281 ts_3 (by decide +kernel) rfl rfl ⟨Nat.le_of_ble_eq_true rfl, Nat.le_of_ble_eq_true rfl⟩) hK hX hS rfl rfl rfl hl.1 rfl (Nat.le_of_ble_eq_true rfl) d_Pe_plan_19 ⟨Nat.zero_le _, Nat.zero_le _⟩ (fun z u H locs rg_4 hp hX hS => ?_)
        obtain ⟨hz, hu⟩ := hp
        rw [hu] at hX
        replace hz : z = x0 := Eq.trans hz (Eq.symm ed0)
        rw [hz]
        refine z_iast (i := (k : Int)) (v := x0) hx hb hK hX hS 20 rfl (by omega) (by decide) (by omega) d_Pe_plan_22 (fun H locs hX hS => ?_)
        refine lv_aload_n hx hb d_Pe_plan_23 rfl (lv_at hl 1 rfl) ?_
        refine z_getr hx hb iw_Pe hown hK hX 4 rfl rfl 4 (by decide) tw_115 (fun _ h => h) 21 rfl d_Pe_plan_24 ?_
        refine lv_iload_n hx hb d_Pe_plan_27 rfl (lv_at hl 0 rfl) ?_
        refine lv_aload_n hx hb d_Pe_plan_28 rfl (lv_at hl 1 rfl) ?_
        refine z_getr hx hb iw_Pe hown hK hX 4 rfl rfl 2 (by decide) tw_111 (fun _ h => h) 19 rfl d_Pe_plan_29 ?_
        refine lv_iload_n hx hb d_Pe_plan_32 rfl (lv_at hl 0 rfl) ?_
        refine z_iald (i := (k : Int)) (v := Mq 19 (k : Int)) hx hb hK hX 19 rfl (by omega) (by decide) rfl d_Pe_plan_33 (fun rg_5 => ?_)
        refine z_bipush hx hb d_Pe_plan_34 (by decide) ?_
        refine z_iadd hx hb d_Pe_plan_36 ?_
        refine lv_aload_n hx hb d_Pe_plan_37 rfl (lv_at hl 1 rfl) ?_
        refine lv_iload_n hx hb d_Pe_plan_38 rfl (lv_at hl 0 rfl) ?_
        refine z_const hx hb d_Pe_plan_39 ?_
        refine z_bipush hx hb d_Pe_plan_40 (by decide) ?_
        refine z_callVi hF (k_Pe_drawn l D ad cI sd (zU Mq 20 (k : Int) x0) (k : Int) 1 90 (by omega)) (hK.cV 3 tw_282 tw_279 tw_6 tw_281 ts_3 (by decide +kernel) rfl rfl ⟨Nat.le_of_ble_eq_true rfl, Nat.le_of_ble_eq_true rfl⟩) hK hX hS rfl rfl rfl hl.1 rfl (Nat.le_of_ble_eq_true rfl) d_Pe_plan_42 ⟨Nat.zero_le _, Nat.zero_le _⟩ (fun z u H locs rg_6 hp hX hS => ?_)
        obtain ⟨hz, hu⟩ := hp
        rw [hu] at hX
        replace hz : z = x1 := Eq.trans hz (Eq.symm ed1)
        rw [hz]
        refine z_iadd hx hb d_Pe_plan_45 ?_
        refine z_iast (i := (k : Int)) (v := ((Mq 19 (k : Int)) + 30) + x1) hx hb hK hX hS 21 rfl (by omega) (by decide) (by omega) d_Pe_plan_46 (fun H locs hX hS => ?_)
        refine lv_aload_n hx hb d_Pe_plan_47 rfl (lv_at hl 1 rfl) ?_
        refine z_getr hx hb iw_Pe hown hK hX 4 rfl rfl 5 (by decide) tw_117 (fun _ h => h) 22 rfl d_Pe_plan_48 ?_
        refine lv_iload_n hx hb d_Pe_plan_51 rfl (lv_at hl 0 rfl) ?_
        refine lv_aload_n hx hb d_Pe_plan_52 rfl (lv_at hl 1 rfl) ?_
        refine z_getr hx hb iw_Pe hown hK hX 4 rfl rfl 4 (by decide) tw_115 (fun _ h => h) 21 rfl d_Pe_plan_53 ?_
        refine lv_iload_n hx hb d_Pe_plan_56 rfl (lv_at hl 0 rfl) ?_
        refine z_iald (i := (k : Int)) (v := ((Mq 19 (k : Int)) + 30) + x1) hx hb hK hX 21 rfl (by omega) (by decide) (by simp [zU]) d_Pe_plan_57 (fun rg_7 => ?_)
        refine z_bipush hx hb d_Pe_plan_58 (by decide) ?_
        refine z_iadd hx hb d_Pe_plan_60 ?_
        refine lv_aload_n hx hb d_Pe_plan_61 rfl (lv_at hl 1 rfl) ?_
        refine lv_iload_n hx hb d_Pe_plan_62 rfl (lv_at hl 0 rfl) ?_
        refine z_const hx hb d_Pe_plan_63 ?_
        refine z_bipush hx hb d_Pe_plan_64 (by decide) ?_
        refine z_callVi hF (k_Pe_drawn l D ad cI sd (zU (zU Mq 20 (k : Int) x0) 21 (k : Int) (((Mq 19 (k : Int)) + 30) + x1)) (k : Int) 2 20 (by omega)) (hK.cV 3 tw_282 tw_279 tw_6 tw_281 ts_3 (by decide +kernel) rfl rfl ⟨Nat.le_of_ble_eq_true rfl, Nat.le_of_ble_eq_true rfl⟩) hK hX hS rfl rfl rfl hl.1 rfl (Nat.le_of_ble_eq_true rfl) d_Pe_plan_66 ⟨Nat.zero_le _, Nat.zero_le _⟩ (fun z u H locs rg_8 hp hX hS => ?_)
        obtain ⟨hz, hu⟩ := hp
        rw [hu] at hX
        replace hz : z = x2 := Eq.trans hz (Eq.symm ed2)
        rw [hz]
        refine z_iadd hx hb d_Pe_plan_69 ?_
        refine z_iast (i := (k : Int)) (v := ((((Mq 19 (k : Int)) + 30) + x1) + 20) + x2) hx hb hK hX hS 22 rfl (by omega) (by decide) (by omega) d_Pe_plan_70 (fun H locs hX hS => ?_)
        refine lv_aload_n hx hb d_Pe_plan_71 rfl (lv_at hl 1 rfl) ?_
        refine z_getr hx hb iw_Pe hown hK hX 4 rfl rfl 6 (by decide) tw_119 (fun _ h => h) 23 rfl d_Pe_plan_72 ?_
        refine lv_iload_n hx hb d_Pe_plan_75 rfl (lv_at hl 0 rfl) ?_
        refine lv_aload_n hx hb d_Pe_plan_76 rfl (lv_at hl 1 rfl) ?_
        refine lv_iload_n hx hb d_Pe_plan_77 rfl (lv_at hl 0 rfl) ?_
        refine z_const hx hb d_Pe_plan_78 ?_
        refine lv_iload_n hx hb d_Pe_plan_79 rfl (lv_at hl 2 rfl) ?_
        refine z_callVi hF (k_Pe_drawn l D ad cI sd (zU (zU (zU Mq 20 (k : Int) x0) 21 (k : Int) (((Mq 19 (k : Int)) + 30) + x1)) 22 (k : Int) (((((Mq 19 (k : Int)) + 30) + x1) + 20) + x2)) (k : Int) 3 r (by omega)) (hK.cV 3 tw_282 tw_279 tw_6 tw_281 ts_3 (by decide +kernel) rfl rfl ⟨Nat.le_of_ble_eq_true rfl, Nat.le_of_ble_eq_true rfl⟩) hK hX hS rfl rfl rfl hl.1 rfl (Nat.le_of_ble_eq_true rfl) d_Pe_plan_80 ⟨Nat.zero_le _, Nat.zero_le _⟩ (fun z u H locs rg_9 hp hX hS => ?_)
        obtain ⟨hz, hu⟩ := hp
        rw [hu] at hX
        replace hz : z = x3 := Eq.trans hz (Eq.symm ed3)
        rw [hz]
        refine z_iast (i := (k : Int)) (v := x3) hx hb hK hX hS 23 rfl (by omega) (by decide) (by omega) d_Pe_plan_83 (fun H locs hX hS => ?_)
        refine lv_aload_n hx hb d_Pe_plan_84 rfl (lv_at hl 1 rfl) ?_
        refine z_getr hx hb iw_Pe hown hK hX 4 rfl rfl 7 (by decide) tw_121 (fun _ h => h) 24 rfl d_Pe_plan_85 ?_
        refine lv_iload_n hx hb d_Pe_plan_88 rfl (lv_at hl 0 rfl) ?_
        refine lv_aload_n hx hb d_Pe_plan_89 rfl (lv_at hl 1 rfl) ?_
        refine z_getr hx hb iw_Pe hown hK hX 4 rfl rfl 2 (by decide) tw_111 (fun _ h => h) 19 rfl d_Pe_plan_90 ?_
        refine lv_iload_n hx hb d_Pe_plan_93 rfl (lv_at hl 0 rfl) ?_
        refine z_iald (i := (k : Int)) (v := Mq 19 (k : Int)) hx hb hK hX 19 rfl (by omega) (by decide) rfl d_Pe_plan_94 (fun rg_10 => ?_)
        refine z_sipush hx hb d_Pe_plan_95 (by decide) ?_
        refine z_iadd hx hb d_Pe_plan_98 ?_
        refine lv_aload_n hx hb d_Pe_plan_99 rfl (lv_at hl 1 rfl) ?_
        refine lv_iload_n hx hb d_Pe_plan_100 rfl (lv_at hl 0 rfl) ?_
        refine z_const hx hb d_Pe_plan_101 ?_
        refine z_sipush hx hb d_Pe_plan_102 (by decide) ?_
        refine z_callVi hF (k_Pe_drawn l D ad cI sd (zU (zU (zU (zU Mq 20 (k : Int) x0) 21 (k : Int) (((Mq 19 (k : Int)) + 30) + x1)) 22 (k : Int) (((((Mq 19 (k : Int)) + 30) + x1) + 20) + x2)) 23 (k : Int) x3) (k : Int) 4 200 (by omega)) (hK.cV 3 tw_282 tw_279 tw_6 tw_281 ts_3 (by decide +kernel) rfl rfl ⟨Nat.le_of_ble_eq_true rfl, Nat.le_of_ble_eq_true rfl⟩) hK hX hS rfl rfl rfl hl.1 rfl (Nat.le_of_ble_eq_true rfl) d_Pe_plan_105 ⟨Nat.zero_le _, Nat.zero_le _⟩ (fun z u H locs rg_11 hp hX hS => ?_)
        obtain ⟨hz, hu⟩ := hp
        rw [hu] at hX
        replace hz : z = x4 := Eq.trans hz (Eq.symm ed4)
        rw [hz]
        refine z_iadd hx hb d_Pe_plan_108 ?_
        refine z_iast (i := (k : Int)) (v := ((Mq 19 (k : Int)) + 200) + x4) hx hb hK hX hS 24 rfl (by omega) (by decide) (by omega) d_Pe_plan_109 (fun H locs hX hS => ?_)
        refine z_iinc (lv' := [(2, .int (zI ((k : Int) + 1))), (0, .ref (ad 4)), (1, .int (zI (r)))]) hx hb d_Pe_plan_110 hl (k := 0) rfl (by decide) rfl (fun ls hl => ?_)
        refine lv_goto (tgt := 2) hx hb d_Pe_plan_113 (by decide) ?_
        exact ih2 (k + 1) _ _ _ (by omega) (by omega) (by have e9 : xPlanN sd M r (k + 1) = zU (zU (zU (zU (zU Mq 20 (k : Int) x0) 21 (k : Int) (((Mq 19 (k : Int)) + 30) + x1)) 22 (k : Int) (((((Mq 19 (k : Int)) + 30) + x1) + 20) + x2)) 23 (k : Int) x3) 24 (k : Int) (((Mq 19 (k : Int)) + 200) + x4) := (by unfold zSame at ed0 ed1 ed2 ed3 ed4; rw [← hMq, ed0, ed1, ed2, ed3, ed4]; rfl); rw [e9]; exact hX) hS (lv_sub hl [0, 1, 2] rfl)
  exact loop2 _ 0 _ _ _ (by omega) (Nat.lt_succ_self _) hX hS (lv_sub hl [0, 1, 2] rfl)
end
section
set_option maxHeartbeats 4000000 in
set_option maxRecDepth 100000 in
theorem k_PS_entr (l : Launch) (D : va_G) (ad : Nat → Nat) (cI : Nat → ClassId) (sd : Int64) (M : zM) (p1 : Int) (h1 : 0 ≤ p1 ∧ p1 < 60) (h2 : 0 ≤ M 16 p1 ∧ M 16 p1 ≤ 46) : zMv l y_PS_tryEntrance (.code y_PS_tryEntrance c_PS_tryEntrance 2 (none)) { frames := 1, cells := 0, slots := 0, locals := 24 } D (xL sd) ad cI M [.ref (ad 0), .int (zI (p1))] (fun u => u = xEntr M p1) := by
  refine z_of (cc := c_PS_tryEntrance) (maxL := 2) (ret := none) (own := "PersonSeeds") (by decide) rfl rfl (Nat.le_of_ble_eq_true rfl) ?_
  intro p e s m below meth c ls hF hr hX hK hl
  obtain ⟨hx, hb, hml, hown, hlk⟩ := id hF
  have hS : va_S (zA ad (xL sd)) s.heap s.heap [] := va_S.rf
  have hl : lv_has ls 2 [(0, .ref (ad 0)), (1, .int (zI (p1)))] := hl
  refine lv_aload_n hx hb d_PS_tryEntrance_0 rfl (lv_at hl 0 rfl) ?_
  refine z_getr hx hb iw_PS hown hK hX 0 rfl rfl 0 (by decide) tw_144 (fun _ h => h) 1 rfl d_PS_tryEntrance_1 ?_
  refine z_const hx hb d_PS_tryEntrance_4 ?_
  refine z_callVNi hF (k_Ro_hasSpace l D ad cI sd M 0 (by omega)) (hK.cN 1 tw_370 tw_367 tw_2 tw_369 ts_15 (by decide +kernel) rfl rfl ⟨Nat.le_of_ble_eq_true rfl, Nat.le_of_ble_eq_true rfl⟩) hK hX hS rfl rfl rfl hl.1 rfl (Nat.le_of_ble_eq_true rfl) d_PS_tryEntrance_5 ⟨Nat.zero_le _, Nat.zero_le _⟩ (fun z u H locs rg_1 hp hX hS => ?_)
  obtain ⟨hz, hu⟩ := hp
  rw [hu] at hX
  have hz : z = (if (M 6 0) < (M 5 0) then 1 else 0) := hz
  subst hz
  refine z_if_ne (a := if (M 6 0) < (M 5 0) then 1 else 0) (tgt := 25) hx hb d_PS_tryEntrance_8 (by decide) (by omega) (fun hb_2 => ?_) (fun hb_3 => ?_)
  · skip
    refine lv_aload_n hx hb d_PS_tryEntrance_25 rfl (lv_at hl 0 rfl) ?_
    refine z_getr hx hb iw_PS hown hK hX 0 rfl rfl 0 (by decide) tw_144 (fun _ h => h) 1 rfl d_PS_tryEntrance_26 ?_
    refine z_getrN hx hb iw_Ro hown hK hX 1 rfl rfl 2 (by decide) tw_32 (fun _ h => h) 6 rfl d_PS_tryEntrance_29 ?_
    refine z_const hx hb d_PS_tryEntrance_32 ?_
    refine lv_dup2_11 hx hb d_PS_tryEntrance_33 rfl rfl ?_
    refine z_iald (i := 0) (v := M 6 0) hx hb hK hX 6 rfl (by omega) (by decide) rfl d_PS_tryEntrance_34 (fun rg_4 => ?_)
    refine z_const hx hb d_PS_tryEntrance_35 ?_
    refine z_iadd hx hb d_PS_tryEntrance_36 ?_
    refine z_iastw (i := 0) (v := (M 6 0) + 1) hx hb hK hX hS 6 rfl (by omega) (by decide) d_PS_tryEntrance_37 (fun H locs hX hS => ?_)
    refine lv_aload_n hx hb d_PS_tryEntrance_38 rfl (lv_at hl 0 rfl) ?_
    refine lv_dup hx hb d_PS_tryEntrance_39 rfl ?_
    refine z_geti (i := 5) (v := M 0 5) hx hb iw_PS hown hK hX 0 rfl rfl 5 (by decide) tw_149 (fun _ h => h) rfl rfl rfl d_PS_tryEntrance_40 (fun rg_5 => ?_)
    refine z_const hx hb d_PS_tryEntrance_43 ?_
    refine z_iadd hx hb d_PS_tryEntrance_44 ?_
    refine z_putiw (i := 5) (v := (M 0 5) + 1) hx hb iw_PS ty_PS tyo_PS n_PS hown hK hX hS 0 rfl rfl 5 (by decide) tw_149 (fun _ h => h) rfl (by decide +kernel) rfl rfl d_PS_tryEntrance_45 (fun H locs hX hS => ?_)
    refine lv_aload_n hx hb d_PS_tryEntrance_48 rfl (lv_at hl 0 rfl) ?_
    refine z_getr hx hb iw_PS hown hK hX 0 rfl rfl 2 (by decide) tw_146 (fun _ h => h) 3 rfl d_PS_tryEntrance_49 ?_
    refine lv_iload_n hx hb d_PS_tryEntrance_52 rfl (lv_at hl 1 rfl) ?_
    refine lv_aload_n hx hb d_PS_tryEntrance_53 rfl (lv_at hl 0 rfl) ?_
    refine z_geti (i := 4) (v := M 0 4) hx hb iw_PS hown hK hX 0 rfl rfl 4 (by decide) tw_148 (fun _ h => h) rfl rfl (by simp [zU]) d_PS_tryEntrance_54 (fun rg_6 => ?_)
    refine z_const hx hb d_PS_tryEntrance_57 ?_
    refine z_callVNv hF (k_Tr_add l D ad cI sd (zU (zU M 6 0 (bm ((M 6 0) + 1))) 0 5 (bm ((M 0 5) + 1))) p1 (M 0 4) 0 h1 h2 (by omega) (by omega)) (hK.cN 3 tw_374 tw_371 tw_5 tw_373 ts_16 (by decide +kernel) rfl rfl ⟨Nat.le_of_ble_eq_true rfl, Nat.le_of_ble_eq_true rfl⟩) hK hX hS rfl rfl rfl hl.1 rfl (Nat.le_of_ble_eq_true rfl) d_PS_tryEntrance_58 ⟨Nat.zero_le _, Nat.zero_le _⟩ (fun u H locs hp hX hS => ?_)
    rw [hp] at hX
    exact z_vret (post := fun u => u = xEntr M p1) hx hb hr hlk hK hX hS (by unfold xEntr; first | rw [if_pos (by omega)] | rw [if_neg (by omega)]) d_PS_tryEntrance_61
  · skip
    refine lv_aload_n hx hb d_PS_tryEntrance_11 rfl (lv_at hl 0 rfl) ?_
    refine z_getr hx hb iw_PS hown hK hX 0 rfl rfl 3 (by decide) tw_147 (fun _ h => h) 4 rfl d_PS_tryEntrance_12 ?_
    refine z_getrN hx hb iw_Pe hown hK hX 4 rfl rfl 8 (by decide) tw_124 (fun _ h => h) 25 rfl d_PS_tryEntrance_15 ?_
    refine lv_iload_n hx hb d_PS_tryEntrance_18 rfl (lv_at hl 1 rfl) ?_
    refine lv_dup2_11 hx hb d_PS_tryEntrance_19 rfl rfl ?_
    refine z_iald (i := p1) (v := M 25 p1) hx hb hK hX 25 rfl (by omega) (by decide) rfl d_PS_tryEntrance_20 (fun rg_7 => ?_)
    refine z_const hx hb d_PS_tryEntrance_21 ?_
    refine z_iadd hx hb d_PS_tryEntrance_22 ?_
    refine z_iastw (i := p1) (v := (M 25 p1) + 1) hx hb hK hX hS 25 rfl (by omega) (by decide) d_PS_tryEntrance_23 (fun H locs hX hS => ?_)
    exact z_vret (post := fun u => u = xEntr M p1) hx hb hr hlk hK hX hS (by unfold xEntr; first | rw [if_pos (by omega)] | rw [if_neg (by omega)]) d_PS_tryEntrance_24
set_option maxHeartbeats 4000000 in
set_option maxRecDepth 100000 in
theorem k_PS_out (l : Launch) (D : va_G) (ad : Nat → Nat) (cI : Nat → ClassId) (sd : Int64) (M : zM) (p1 : Int) (h1 : 0 ≤ p1 ∧ p1 < 60) (h2 : 0 ≤ M 16 p1 ∧ M 16 p1 ≤ 46) : zMv l y_PS_goOut (.code y_PS_goOut c_PS_goOut 2 (none)) { frames := 1, cells := 0, slots := 0, locals := 24 } D (xL sd) ad cI M [.ref (ad 0), .int (zI (p1))] (fun u => u = xOut M p1) := by
  refine z_of (cc := c_PS_goOut) (maxL := 2) (ret := none) (own := "PersonSeeds") (by decide) rfl rfl (Nat.le_of_ble_eq_true rfl) ?_
  intro p e s m below meth c ls hF hr hX hK hl
  obtain ⟨hx, hb, hml, hown, hlk⟩ := id hF
  have hS : va_S (zA ad (xL sd)) s.heap s.heap [] := va_S.rf
  have hl : lv_has ls 2 [(0, .ref (ad 0)), (1, .int (zI (p1)))] := hl
  refine lv_aload_n hx hb d_PS_goOut_0 rfl (lv_at hl 0 rfl) ?_
  refine z_getr hx hb iw_PS hown hK hX 0 rfl rfl 0 (by decide) tw_144 (fun _ h => h) 1 rfl d_PS_goOut_1 ?_
  refine z_getrN hx hb iw_Ro hown hK hX 1 rfl rfl 2 (by decide) tw_32 (fun _ h => h) 6 rfl d_PS_goOut_4 ?_
  refine z_const hx hb d_PS_goOut_7 ?_
  refine lv_dup2_11 hx hb d_PS_goOut_8 rfl rfl ?_
  refine z_iald (i := 0) (v := M 6 0) hx hb hK hX 6 rfl (by omega) (by decide) rfl d_PS_goOut_9 (fun rg_1 => ?_)
  refine z_const hx hb d_PS_goOut_10 ?_
  refine z_isub hx hb d_PS_goOut_11 ?_
  refine z_iastw (i := 0) (v := (M 6 0) - 1) hx hb hK hX hS 6 rfl (by omega) (by decide) d_PS_goOut_12 (fun H locs hX hS => ?_)
  refine lv_aload_n hx hb d_PS_goOut_13 rfl (lv_at hl 0 rfl) ?_
  refine lv_dup hx hb d_PS_goOut_14 rfl ?_
  refine z_geti (i := 6) (v := M 0 6) hx hb iw_PS hown hK hX 0 rfl rfl 6 (by decide) tw_150 (fun _ h => h) rfl rfl rfl d_PS_goOut_15 (fun rg_2 => ?_)
  refine z_const hx hb d_PS_goOut_18 ?_
  refine z_iadd hx hb d_PS_goOut_19 ?_
  refine z_putiw (i := 6) (v := (M 0 6) + 1) hx hb iw_PS ty_PS tyo_PS n_PS hown hK hX hS 0 rfl rfl 6 (by decide) tw_150 (fun _ h => h) rfl (by decide +kernel) rfl rfl d_PS_goOut_20 (fun H locs hX hS => ?_)
  refine lv_aload_n hx hb d_PS_goOut_23 rfl (lv_at hl 0 rfl) ?_
  refine z_getr hx hb iw_PS hown hK hX 0 rfl rfl 2 (by decide) tw_146 (fun _ h => h) 3 rfl d_PS_goOut_24 ?_
  refine lv_iload_n hx hb d_PS_goOut_27 rfl (lv_at hl 1 rfl) ?_
  refine lv_aload_n hx hb d_PS_goOut_28 rfl (lv_at hl 0 rfl) ?_
  refine z_geti (i := 4) (v := M 0 4) hx hb iw_PS hown hK hX 0 rfl rfl 4 (by decide) tw_148 (fun _ h => h) rfl rfl (by simp [zU]) d_PS_goOut_29 (fun rg_3 => ?_)
  refine z_const hx hb d_PS_goOut_32 ?_
  refine z_callVNv hF (k_Tr_add l D ad cI sd (zU (zU M 6 0 (bm ((M 6 0) - 1))) 0 6 (bm ((M 0 6) + 1))) p1 (M 0 4) (-1) h1 h2 (by omega) (by omega)) (hK.cN 3 tw_374 tw_371 tw_5 tw_373 ts_16 (by decide +kernel) rfl rfl ⟨Nat.le_of_ble_eq_true rfl, Nat.le_of_ble_eq_true rfl⟩) hK hX hS rfl rfl rfl hl.1 rfl (Nat.le_of_ble_eq_true rfl) d_PS_goOut_33 ⟨Nat.zero_le _, Nat.zero_le _⟩ (fun u H locs hp hX hS => ?_)
  rw [hp] at hX
  exact z_vret (post := fun u => u = xOut M p1) hx hb hr hlk hK hX hS rfl d_PS_goOut_36
set_option maxHeartbeats 4000000 in
set_option maxRecDepth 100000 in
theorem k_PS_tryDoor (l : Launch) (D : va_G) (ad : Nat → Nat) (cI : Nat → ClassId) (sd : Int64) (M : zM) (p1 h g : Int) (h1 : 0 ≤ p1 ∧ p1 < 60) (h2 : 0 ≤ M 16 p1 ∧ M 16 p1 ≤ 46) (h3 : 0 ≤ M 2 0 ∧ M 2 0 ≤ 16) (h4 : ∀ d, 0 ≤ d → d < M 2 0 → (0 ≤ M 9 d ∧ M 9 d < 12) ∧ 0 ≤ M 10 d ∧ M 10 d < 12) (h5 : 0 ≤ h ∧ h < 12) (h6 : 0 ≤ g ∧ g < 12) : zMv l y_PS_tryDoor (.code y_PS_tryDoor c_PS_tryDoor 6 (none)) { frames := 2, cells := 0, slots := 0, locals := 47 } D (xL sd) ad cI M [.ref (ad 0), .int (zI (p1)), .int (zI (h)), .int (zI (g))] (fun u => u = xTryDoor M p1 h g) := by
  refine z_of (cc := c_PS_tryDoor) (maxL := 6) (ret := none) (own := "PersonSeeds") (by decide) rfl rfl (Nat.le_of_ble_eq_true rfl) ?_
  intro p e s m below meth c ls hF hr hX hK hl
  obtain ⟨hx, hb, hml, hown, hlk⟩ := id hF
  have hS : va_S (zA ad (xL sd)) s.heap s.heap [] := va_S.rf
  have hl : lv_has ls 6 [(0, .ref (ad 0)), (1, .int (zI (p1))), (2, .int (zI (h))), (3, .int (zI (g)))] := hl
  refine lv_aload_n hx hb d_PS_tryDoor_0 rfl (lv_at hl 0 rfl) ?_
  refine z_getr hx hb iw_PS hown hK hX 0 rfl rfl 1 (by decide) tw_145 (fun _ h => h) 2 rfl d_PS_tryDoor_1 ?_
  refine lv_iload_n hx hb d_PS_tryDoor_4 rfl (lv_at hl 2 rfl) ?_
  refine lv_iload_n hx hb d_PS_tryDoor_5 rfl (lv_at hl 3 rfl) ?_
  refine z_callVNi hF (k_Do_towards l D ad cI sd M h g h5 h6 h3 h4) (hK.cN 2 tw_382 tw_379 tw_3 tw_381 ts_18 (by decide +kernel) rfl rfl ⟨Nat.le_of_ble_eq_true rfl, Nat.le_of_ble_eq_true rfl⟩) hK hX hS rfl rfl rfl hl.1 rfl (Nat.le_of_ble_eq_true rfl) d_PS_tryDoor_6 ⟨Nat.zero_le _, Nat.zero_le _⟩ (fun z u H locs rg_1 hp hX hS => ?_)
  obtain ⟨hz, hu⟩ := hp
  rw [hu] at hX
  have hz : z = (xTow M h g) := hz
  subst hz
  refine lv_istore (lv' := [(4, .int (zI (xTow M h g))), (0, .ref (ad 0)), (1, .int (zI (p1))), (2, .int (zI (h))), (3, .int (zI (g)))]) hx hb d_PS_tryDoor_9 hl (by decide) rfl (fun ls hl => ?_)
  refine lv_iload hx hb d_PS_tryDoor_11 (lv_at hl 0 rfl) ?_
  refine z_const hx hb d_PS_tryDoor_13 ?_
  refine z_icmp_ne (a := xTow M h g) (b := -1) (tgt := 21) hx hb d_PS_tryDoor_14 (by decide) (by omega) (fun hb_2 => ?_) (fun hb_3 => ?_)
  · skip
    refine lv_aload_n hx hb d_PS_tryDoor_21 rfl (lv_at hl 1 rfl) ?_
    refine z_getr hx hb iw_PS hown hK hX 0 rfl rfl 1 (by decide) tw_145 (fun _ h => h) 2 rfl d_PS_tryDoor_22 ?_
    refine lv_iload hx hb d_PS_tryDoor_25 (lv_at hl 0 rfl) ?_
    refine lv_iload_n hx hb d_PS_tryDoor_27 rfl (lv_at hl 3 rfl) ?_
    refine z_callVNi hF (k_Do_behind l D ad cI sd M (xTow M h g) h (by have e8 := xTow_rg M h g h3.1; omega) (by omega)) (hK.cN 2 tw_386 tw_387 tw_3 tw_385 ts_19 (by decide +kernel) rfl rfl ⟨Nat.le_of_ble_eq_true rfl, Nat.le_of_ble_eq_true rfl⟩) hK hX hS rfl rfl rfl hl.1 rfl (Nat.le_of_ble_eq_true rfl) d_PS_tryDoor_28 ⟨Nat.zero_le _, Nat.zero_le _⟩ (fun z u H locs rg_4 hp hX hS => ?_)
    obtain ⟨hz, hu⟩ := hp
    rw [hu] at hX
    have hz : z = (xSide M (xTow M h g) h) := hz
    subst hz
    refine lv_istore (lv' := [(5, .int (zI (xSide M (xTow M h g) h))), (4, .int (zI (xTow M h g))), (0, .ref (ad 0)), (1, .int (zI (p1))), (2, .int (zI (h))), (3, .int (zI (g)))]) hx hb d_PS_tryDoor_31 hl (by decide) rfl (fun ls hl => ?_)
    refine lv_iload hx hb d_PS_tryDoor_33 (lv_at hl 0 rfl) ?_
    refine z_const hx hb d_PS_tryDoor_35 ?_
    refine z_icmp_ne (a := xSide M (xTow M h g) h) (b := -1) (tgt := 40) hx hb d_PS_tryDoor_36 (by decide) (by omega) (fun hb_5 => ?_) (fun hb_6 => ?_)
    · skip
      refine lv_aload_n hx hb d_PS_tryDoor_40 rfl (lv_at hl 2 rfl) ?_
      refine z_getr hx hb iw_PS hown hK hX 0 rfl rfl 0 (by decide) tw_144 (fun _ h => h) 1 rfl d_PS_tryDoor_41 ?_
      refine lv_iload hx hb d_PS_tryDoor_44 (lv_at hl 0 rfl) ?_
      refine z_callVNi hF (k_Ro_hasSpace l D ad cI sd M (xSide M (xTow M h g) h) (by have e8 := xTow_rg M h g h3.1; have h9 := h4 (xTow M h g) (by omega) (by omega); have e9 := xSide_or M (xTow M h g) h; omega)) (hK.cN 1 tw_370 tw_367 tw_2 tw_369 ts_15 (by decide +kernel) rfl rfl ⟨Nat.le_of_ble_eq_true rfl, Nat.le_of_ble_eq_true rfl⟩) hK hX hS rfl rfl rfl hl.1 rfl (Nat.le_of_ble_eq_true rfl) d_PS_tryDoor_46 ⟨Nat.zero_le _, Nat.zero_le _⟩ (fun z u H locs rg_7 hp hX hS => ?_)
      obtain ⟨hz, hu⟩ := hp
      rw [hu] at hX
      have hz : z = (if (M 6 (xSide M (xTow M h g) h)) < (M 5 (xSide M (xTow M h g) h)) then 1 else 0) := hz
      subst hz
      refine z_if_eq (a := if (M 6 (xSide M (xTow M h g) h)) < (M 5 (xSide M (xTow M h g) h)) then 1 else 0) (tgt := 64) hx hb d_PS_tryDoor_49 (by decide) (by omega) (fun hb_8 => ?_) (fun hb_9 => ?_)
      · skip
        refine lv_aload_n hx hb d_PS_tryDoor_64 rfl (lv_at hl 2 rfl) ?_
        refine z_getr hx hb iw_PS hown hK hX 0 rfl rfl 3 (by decide) tw_147 (fun _ h => h) 4 rfl d_PS_tryDoor_65 ?_
        refine z_getrN hx hb iw_Pe hown hK hX 4 rfl rfl 8 (by decide) tw_124 (fun _ h => h) 25 rfl d_PS_tryDoor_68 ?_
        refine lv_iload_n hx hb d_PS_tryDoor_71 rfl (lv_at hl 3 rfl) ?_
        refine lv_dup2_11 hx hb d_PS_tryDoor_72 rfl rfl ?_
        refine z_iald (i := p1) (v := M 25 p1) hx hb hK hX 25 rfl (by omega) (by decide) rfl d_PS_tryDoor_73 (fun rg_10 => ?_)
        refine z_const hx hb d_PS_tryDoor_74 ?_
        refine z_iadd hx hb d_PS_tryDoor_75 ?_
        refine z_iastw (i := p1) (v := (M 25 p1) + 1) hx hb hK hX hS 25 rfl (by omega) (by decide) d_PS_tryDoor_76 (fun H locs hX hS => ?_)
        exact z_vret (post := fun u => u = xTryDoor M p1 h g) hx hb hr hlk hK hX hS (by unfold xTryDoor; rw [show xNext M h g = xSide M (xTow M h g) h from (by unfold xNext; first | rw [if_pos (by omega)] | rw [if_neg (by omega)])]; first | (rw [if_pos (by omega)]; done) | (rw [if_neg (by omega), if_pos (by omega)]; rfl) | (rw [if_neg (by omega), if_neg (by omega)]; done)) d_PS_tryDoor_77
      · skip
        refine lv_aload_n hx hb d_PS_tryDoor_52 rfl (lv_at hl 2 rfl) ?_
        refine z_getr hx hb iw_PS hown hK hX 0 rfl rfl 1 (by decide) tw_145 (fun _ h => h) 2 rfl d_PS_tryDoor_53 ?_
        refine lv_iload hx hb d_PS_tryDoor_56 (lv_at hl 1 rfl) ?_
        refine z_callVNi hF (k_Do_isFree l D ad cI sd M (xTow M h g) (by have e8 := xTow_rg M h g h3.1; omega)) (hK.cN 1 tw_391 tw_388 tw_3 tw_390 ts_20 (by decide +kernel) rfl rfl ⟨Nat.le_of_ble_eq_true rfl, Nat.le_of_ble_eq_true rfl⟩) hK hX hS rfl rfl rfl hl.1 rfl (Nat.le_of_ble_eq_true rfl) d_PS_tryDoor_58 ⟨Nat.zero_le _, Nat.zero_le _⟩ (fun z u H locs rg_11 hp hX hS => ?_)
        obtain ⟨hz, hu⟩ := hp
        rw [hu] at hX
        have hz : z = (if (M 14 (xTow M h g)) < (M 11 (xTow M h g)) then 1 else 0) := hz
        subst hz
        refine z_if_ne (a := if (M 14 (xTow M h g)) < (M 11 (xTow M h g)) then 1 else 0) (tgt := 78) hx hb d_PS_tryDoor_61 (by decide) (by omega) (fun hb_12 => ?_) (fun hb_13 => ?_)
        · skip
          refine lv_aload_n hx hb d_PS_tryDoor_78 rfl (lv_at hl 2 rfl) ?_
          refine z_getr hx hb iw_PS hown hK hX 0 rfl rfl 1 (by decide) tw_145 (fun _ h => h) 2 rfl d_PS_tryDoor_79 ?_
          refine lv_iload hx hb d_PS_tryDoor_82 (lv_at hl 1 rfl) ?_
          refine lv_iload_n hx hb d_PS_tryDoor_84 rfl (lv_at hl 4 rfl) ?_
          refine z_callVNv hF (k_Do_pass l D ad cI sd M (xTow M h g) h (by have e8 := xTow_rg M h g h3.1; omega) (by omega)) (hK.cN 2 tw_395 tw_392 tw_3 tw_394 ts_21 (by decide +kernel) rfl rfl ⟨Nat.le_of_ble_eq_true rfl, Nat.le_of_ble_eq_true rfl⟩) hK hX hS rfl rfl rfl hl.1 rfl (Nat.le_of_ble_eq_true rfl) d_PS_tryDoor_85 ⟨Nat.zero_le _, Nat.zero_le _⟩ (fun u H locs hp hX hS => ?_)
          rw [hp] at hX
          refine lv_aload_n hx hb d_PS_tryDoor_88 rfl (lv_at hl 2 rfl) ?_
          refine z_getr hx hb iw_PS hown hK hX 0 rfl rfl 0 (by decide) tw_144 (fun _ h => h) 1 rfl d_PS_tryDoor_89 ?_
          refine z_getrN hx hb iw_Ro hown hK hX 1 rfl rfl 2 (by decide) tw_32 (fun _ h => h) 6 rfl d_PS_tryDoor_92 ?_
          refine lv_iload_n hx hb d_PS_tryDoor_95 rfl (lv_at hl 4 rfl) ?_
          refine lv_dup2_11 hx hb d_PS_tryDoor_96 rfl rfl ?_
          refine z_iald (i := h) (v := (xPass M (xTow M h g) h) 6 h) hx hb hK hX 6 rfl (by omega) (by decide) rfl d_PS_tryDoor_97 (fun rg_14 => ?_)
          refine z_const hx hb d_PS_tryDoor_98 ?_
          refine z_isub hx hb d_PS_tryDoor_99 ?_
          refine z_iastw (i := h) (v := ((xPass M (xTow M h g) h) 6 h) - 1) hx hb hK hX hS 6 rfl (by omega) (by decide) d_PS_tryDoor_100 (fun H locs hX hS => ?_)
          refine lv_aload_n hx hb d_PS_tryDoor_101 rfl (lv_at hl 2 rfl) ?_
          refine z_getr hx hb iw_PS hown hK hX 0 rfl rfl 0 (by decide) tw_144 (fun _ h => h) 1 rfl d_PS_tryDoor_102 ?_
          refine z_getrN hx hb iw_Ro hown hK hX 1 rfl rfl 2 (by decide) tw_32 (fun _ h => h) 6 rfl d_PS_tryDoor_105 ?_
          refine lv_iload hx hb d_PS_tryDoor_108 (lv_at hl 0 rfl) ?_
          refine lv_dup2_11 hx hb d_PS_tryDoor_110 rfl rfl ?_
          refine z_iald (i := xSide M (xTow M h g) h) (v := (zU (xPass M (xTow M h g) h) 6 h (bm (((xPass M (xTow M h g) h) 6 h) - 1))) 6 (xSide M (xTow M h g) h)) hx hb hK hX 6 rfl (by have e8 := xTow_rg M h g h3.1; have h9 := h4 (xTow M h g) (by omega) (by omega); have e9 := xSide_or M (xTow M h g) h; omega) (by decide) (by simp [zU]) d_PS_tryDoor_111 (fun rg_15 => ?_)
          refine z_const hx hb d_PS_tryDoor_112 ?_
          refine z_iadd hx hb d_PS_tryDoor_113 ?_
          refine z_iastw (i := xSide M (xTow M h g) h) (v := ((zU (xPass M (xTow M h g) h) 6 h (bm (((xPass M (xTow M h g) h) 6 h) - 1))) 6 (xSide M (xTow M h g) h)) + 1) hx hb hK hX hS 6 rfl (by have e8 := xTow_rg M h g h3.1; have h9 := h4 (xTow M h g) (by omega) (by omega); have e9 := xSide_or M (xTow M h g) h; omega) (by decide) d_PS_tryDoor_114 (fun H locs hX hS => ?_)
          refine lv_aload_n hx hb d_PS_tryDoor_115 rfl (lv_at hl 2 rfl) ?_
          refine z_getr hx hb iw_PS hown hK hX 0 rfl rfl 2 (by decide) tw_146 (fun _ h => h) 3 rfl d_PS_tryDoor_116 ?_
          refine lv_iload_n hx hb d_PS_tryDoor_119 rfl (lv_at hl 3 rfl) ?_
          refine lv_aload_n hx hb d_PS_tryDoor_120 rfl (lv_at hl 2 rfl) ?_
          refine z_geti (i := 4) (v := (xPass M (xTow M h g) h) 0 4) hx hb iw_PS hown hK hX 0 rfl rfl 4 (by decide) tw_148 (fun _ h => h) rfl rfl rfl d_PS_tryDoor_121 (fun rg_16 => ?_)
          refine lv_iload hx hb d_PS_tryDoor_124 (lv_at hl 0 rfl) ?_
          refine z_callVNv hF (k_Tr_add l D ad cI sd (zU (zU (xPass M (xTow M h g) h) 6 h (bm (((xPass M (xTow M h g) h) 6 h) - 1))) 6 (xSide M (xTow M h g) h) (bm (((zU (xPass M (xTow M h g) h) 6 h (bm (((xPass M (xTow M h g) h) 6 h) - 1))) 6 (xSide M (xTow M h g) h)) + 1))) p1 ((xPass M (xTow M h g) h) 0 4) (xSide M (xTow M h g) h) h1 (by have e9 : xPass M (xTow M h g) h 16 = M 16 := xPass_c (by decide) (by decide) (by decide); show 0 ≤ xPass M (xTow M h g) h 16 p1 ∧ xPass M (xTow M h g) h 16 p1 ≤ 46; rw [e9]; exact h2) (by omega) (by omega)) (hK.cN 3 tw_374 tw_371 tw_5 tw_373 ts_16 (by decide +kernel) rfl rfl ⟨Nat.le_of_ble_eq_true rfl, Nat.le_of_ble_eq_true rfl⟩) hK hX hS rfl rfl rfl hl.1 rfl (Nat.le_of_ble_eq_true rfl) d_PS_tryDoor_126 ⟨Nat.zero_le _, Nat.zero_le _⟩ (fun u H locs hp hX hS => ?_)
          rw [hp] at hX
          exact z_vret (post := fun u => u = xTryDoor M p1 h g) hx hb hr hlk hK hX hS (by unfold xTryDoor; rw [show xNext M h g = xSide M (xTow M h g) h from (by unfold xNext; first | rw [if_pos (by omega)] | rw [if_neg (by omega)])]; first | (rw [if_pos (by omega)]; done) | (rw [if_neg (by omega), if_pos (by omega)]; rfl) | (rw [if_neg (by omega), if_neg (by omega)]; done)) d_PS_tryDoor_129
        · skip
          refine lv_aload_n hx hb d_PS_tryDoor_64 rfl (lv_at hl 2 rfl) ?_
          refine z_getr hx hb iw_PS hown hK hX 0 rfl rfl 3 (by decide) tw_147 (fun _ h => h) 4 rfl d_PS_tryDoor_65 ?_
          refine z_getrN hx hb iw_Pe hown hK hX 4 rfl rfl 8 (by decide) tw_124 (fun _ h => h) 25 rfl d_PS_tryDoor_68 ?_
          refine lv_iload_n hx hb d_PS_tryDoor_71 rfl (lv_at hl 3 rfl) ?_
          refine lv_dup2_11 hx hb d_PS_tryDoor_72 rfl rfl ?_
          refine z_iald (i := p1) (v := M 25 p1) hx hb hK hX 25 rfl (by omega) (by decide) rfl d_PS_tryDoor_73 (fun rg_17 => ?_)
          refine z_const hx hb d_PS_tryDoor_74 ?_
          refine z_iadd hx hb d_PS_tryDoor_75 ?_
          refine z_iastw (i := p1) (v := (M 25 p1) + 1) hx hb hK hX hS 25 rfl (by omega) (by decide) d_PS_tryDoor_76 (fun H locs hX hS => ?_)
          exact z_vret (post := fun u => u = xTryDoor M p1 h g) hx hb hr hlk hK hX hS (by unfold xTryDoor; rw [show xNext M h g = xSide M (xTow M h g) h from (by unfold xNext; first | rw [if_pos (by omega)] | rw [if_neg (by omega)])]; first | (rw [if_pos (by omega)]; done) | (rw [if_neg (by omega), if_pos (by omega)]; rfl) | (rw [if_neg (by omega), if_neg (by omega)]; done)) d_PS_tryDoor_77
    · skip
      exact z_vret (post := fun u => u = xTryDoor M p1 h g) hx hb hr hlk hK hX hS (by unfold xTryDoor; rw [show xNext M h g = xSide M (xTow M h g) h from (by unfold xNext; first | rw [if_pos (by omega)] | rw [if_neg (by omega)])]; first | (rw [if_pos (by omega)]; done) | (rw [if_neg (by omega), if_pos (by omega)]; rfl) | (rw [if_neg (by omega), if_neg (by omega)]; done)) d_PS_tryDoor_39
  · skip
    refine z_const hx hb d_PS_tryDoor_17 ?_
    refine lv_goto (tgt := 31) hx hb d_PS_tryDoor_18 (by decide) ?_
    refine lv_istore (lv' := [(5, .int (zI (-1))), (4, .int (zI (xTow M h g))), (0, .ref (ad 0)), (1, .int (zI (p1))), (2, .int (zI (h))), (3, .int (zI (g)))]) hx hb d_PS_tryDoor_31 hl (by decide) rfl (fun ls hl => ?_)
    refine lv_iload hx hb d_PS_tryDoor_33 (lv_at hl 0 rfl) ?_
    refine z_const hx hb d_PS_tryDoor_35 ?_
    refine z_icmp_ne (a := -1) (b := -1) (tgt := 40) hx hb d_PS_tryDoor_36 (by decide) (by omega) (fun hb_18 => ?_) (fun hb_19 => ?_)
    · skip
      exfalso
      omega
    · skip
      exact z_vret (post := fun u => u = xTryDoor M p1 h g) hx hb hr hlk hK hX hS (by unfold xTryDoor; rw [show xNext M h g = -1 from (by unfold xNext; first | rw [if_pos (by omega)] | rw [if_neg (by omega)])]; first | (rw [if_pos (by omega)]; done) | (rw [if_neg (by omega), if_pos (by omega)]; rfl) | (rw [if_neg (by omega), if_neg (by omega)]; done)) d_PS_tryDoor_39
set_option maxHeartbeats 4000000 in
set_option maxRecDepth 100000 in
theorem k_PS_step (l : Launch) (D : va_G) (ad : Nat → Nat) (cI : Nat → ClassId) (sd : Int64) (M : zM) (p1 : Int) (h1 : 0 ≤ p1 ∧ p1 < 60) (h2 : 0 ≤ M 16 p1 ∧ M 16 p1 ≤ 46) (h3 : 0 ≤ M 2 0 ∧ M 2 0 ≤ 16) (h4 : ∀ d, 0 ≤ d → d < M 2 0 → (0 ≤ M 9 d ∧ M 9 d < 12) ∧ 0 ≤ M 10 d ∧ M 10 d < 12) (h5 : -1 ≤ xNow M p1 ∧ xNow M p1 < 12) (h6 : (0 ≤ M 20 p1 ∧ M 20 p1 < 12) ∧ 0 ≤ M 23 p1 ∧ M 23 p1 < 12) : zMv l y_PS_tryStep (.code y_PS_tryStep c_PS_tryStep 4 (none)) { frames := 3, cells := 0, slots := 0, locals := 72 } D (xL sd) ad cI M [.ref (ad 0), .int (zI (p1))] (fun u => u = xStep M p1) := by
  refine z_of (cc := c_PS_tryStep) (maxL := 4) (ret := none) (own := "PersonSeeds") (by decide) rfl rfl (Nat.le_of_ble_eq_true rfl) ?_
  intro p e s m below meth c ls hF hr hX hK hl
  obtain ⟨hx, hb, hml, hown, hlk⟩ := id hF
  have hS : va_S (zA ad (xL sd)) s.heap s.heap [] := va_S.rf
  have hl : lv_has ls 4 [(0, .ref (ad 0)), (1, .int (zI (p1)))] := hl
  refine lv_aload_n hx hb d_PS_tryStep_0 rfl (lv_at hl 0 rfl) ?_
  refine z_getr hx hb iw_PS hown hK hX 0 rfl rfl 2 (by decide) tw_146 (fun _ h => h) 3 rfl d_PS_tryStep_1 ?_
  refine lv_iload_n hx hb d_PS_tryStep_4 rfl (lv_at hl 1 rfl) ?_
  refine z_callVNi hF (k_Tr_placeNow l D ad cI sd M p1 h1 h2) (hK.cN 1 tw_358 tw_355 tw_5 tw_357 ts_12 (by decide +kernel) rfl rfl ⟨Nat.le_of_ble_eq_true rfl, Nat.le_of_ble_eq_true rfl⟩) hK hX hS rfl rfl rfl hl.1 rfl (Nat.le_of_ble_eq_true rfl) d_PS_tryStep_5 ⟨Nat.zero_le _, Nat.zero_le _⟩ (fun z u H locs rg_1 hp hX hS => ?_)
  obtain ⟨hz, hu⟩ := hp
  rw [hu] at hX
  have hz : z = (xNow M p1) := hz
  subst hz
  refine lv_istore_n (lv' := [(2, .int (zI (xNow M p1))), (0, .ref (ad 0)), (1, .int (zI (p1)))]) hx hb d_PS_tryStep_8 rfl hl (by decide) rfl (fun ls hl => ?_)
  refine lv_aload_n hx hb d_PS_tryStep_9 rfl (lv_at hl 1 rfl) ?_
  refine z_getr hx hb iw_PS hown hK hX 0 rfl rfl 3 (by decide) tw_147 (fun _ h => h) 4 rfl d_PS_tryStep_10 ?_
  refine lv_iload_n hx hb d_PS_tryStep_13 rfl (lv_at hl 2 rfl) ?_
  refine lv_aload_n hx hb d_PS_tryStep_14 rfl (lv_at hl 1 rfl) ?_
  refine z_geti (i := 4) (v := M 0 4) hx hb iw_PS hown hK hX 0 rfl rfl 4 (by decide) tw_148 (fun _ h => h) rfl rfl rfl d_PS_tryStep_15 (fun rg_2 => ?_)
  refine z_callVNi hF (k_Pe_wants l D ad cI sd M p1 (M 0 4) h1 (by omega)) (hK.cN 2 tw_362 tw_359 tw_6 tw_361 ts_13 (by decide +kernel) rfl rfl ⟨Nat.le_of_ble_eq_true rfl, Nat.le_of_ble_eq_true rfl⟩) hK hX hS rfl rfl rfl hl.1 rfl (Nat.le_of_ble_eq_true rfl) d_PS_tryStep_18 ⟨Nat.zero_le _, Nat.zero_le _⟩ (fun z u H locs rg_3 hp hX hS => ?_)
  obtain ⟨hz, hu⟩ := hp
  rw [hu] at hX
  have hz : z = (xWants M p1 (M 0 4)) := hz
  subst hz
  refine lv_istore_n (lv' := [(3, .int (zI (xWants M p1 (M 0 4)))), (2, .int (zI (xNow M p1))), (0, .ref (ad 0)), (1, .int (zI (p1)))]) hx hb d_PS_tryStep_21 rfl hl (by decide) rfl (fun ls hl => ?_)
  refine lv_iload_n hx hb d_PS_tryStep_22 rfl (lv_at hl 1 rfl) ?_
  refine lv_iload_n hx hb d_PS_tryStep_23 rfl (lv_at hl 0 rfl) ?_
  refine z_icmp_ne (a := xNow M p1) (b := xWants M p1 (M 0 4)) (tgt := 28) hx hb d_PS_tryStep_24 (by decide) (by omega) (fun hb_4 => ?_) (fun hb_5 => ?_)
  · skip
    refine lv_iload_n hx hb d_PS_tryStep_28 rfl (lv_at hl 1 rfl) ?_
    refine z_const hx hb d_PS_tryStep_29 ?_
    refine z_icmp_ne (a := xNow M p1) (b := -1) (tgt := 41) hx hb d_PS_tryStep_30 (by decide) (by omega) (fun hb_6 => ?_) (fun hb_7 => ?_)
    · skip
      refine lv_iload_n hx hb d_PS_tryStep_41 rfl (lv_at hl 0 rfl) ?_
      refine z_const hx hb d_PS_tryStep_42 ?_
      refine z_icmp_eq (a := xWants M p1 (M 0 4)) (b := -1) (tgt := 56) hx hb d_PS_tryStep_43 (by decide) (by omega) (fun hb_8 => ?_) (fun hb_9 => ?_)
      · skip
        refine lv_iload_n hx hb d_PS_tryStep_56 rfl (lv_at hl 1 rfl) ?_
        refine z_if_eq (a := xNow M p1) (tgt := 70) hx hb d_PS_tryStep_57 (by decide) (by omega) (fun hb_10 => ?_) (fun hb_11 => ?_)
        · skip
          refine lv_aload_n hx hb d_PS_tryStep_70 rfl (lv_at hl 2 rfl) ?_
          refine lv_iload_n hx hb d_PS_tryStep_71 rfl (lv_at hl 3 rfl) ?_
          refine z_callVv hF (k_PS_out l D ad cI sd M p1 h1 h2) (hK.cV 1 tw_399 tw_396 tw_1 tw_398 ts_22 (by decide +kernel) rfl rfl ⟨Nat.le_of_ble_eq_true rfl, Nat.le_of_ble_eq_true rfl⟩) hK hX hS rfl rfl rfl hl.1 rfl (Nat.le_of_ble_eq_true rfl) d_PS_tryStep_72 ⟨Nat.zero_le _, Nat.zero_le _⟩ (fun u H locs hp hX hS => ?_)
          rw [hp] at hX
          exact z_vret (post := fun u => u = xStep M p1) hx hb hr hlk hK hX hS (by unfold xStep; first | rw [if_pos (by omega)] | rw [if_neg (by omega), if_pos (by omega)] | rw [if_neg (by omega), if_neg (by omega), if_pos (by omega)] | rw [if_neg (by omega), if_neg (by omega), if_neg (by omega), if_pos (by omega)] | rw [if_neg (by omega), if_neg (by omega), if_neg (by omega), if_neg (by omega)]) d_PS_tryStep_75
        · skip
          refine lv_aload_n hx hb d_PS_tryStep_60 rfl (lv_at hl 2 rfl) ?_
          refine lv_iload_n hx hb d_PS_tryStep_61 rfl (lv_at hl 3 rfl) ?_
          refine lv_iload_n hx hb d_PS_tryStep_62 rfl (lv_at hl 1 rfl) ?_
          refine z_const hx hb d_PS_tryStep_63 ?_
          refine z_callVv hF (k_PS_tryDoor l D ad cI sd M p1 (xNow M p1) 0 h1 h2 h3 h4 (by omega) (by omega)) (hK.cV 3 tw_378 tw_375 tw_1 tw_377 ts_17 (by decide +kernel) rfl rfl ⟨Nat.le_of_ble_eq_true rfl, Nat.le_of_ble_eq_true rfl⟩) hK hX hS rfl rfl rfl hl.1 rfl (Nat.le_of_ble_eq_true rfl) d_PS_tryStep_64 ⟨Nat.zero_le _, Nat.zero_le _⟩ (fun u H locs hp hX hS => ?_)
          rw [hp] at hX
          refine lv_goto (tgt := 75) hx hb d_PS_tryStep_67 (by decide) ?_
          exact z_vret (post := fun u => u = xStep M p1) hx hb hr hlk hK hX hS (by unfold xStep; first | rw [if_pos (by omega)] | rw [if_neg (by omega), if_pos (by omega)] | rw [if_neg (by omega), if_neg (by omega), if_pos (by omega)] | rw [if_neg (by omega), if_neg (by omega), if_neg (by omega), if_pos (by omega)] | rw [if_neg (by omega), if_neg (by omega), if_neg (by omega), if_neg (by omega)]) d_PS_tryStep_75
      · skip
        refine lv_aload_n hx hb d_PS_tryStep_46 rfl (lv_at hl 2 rfl) ?_
        refine lv_iload_n hx hb d_PS_tryStep_47 rfl (lv_at hl 3 rfl) ?_
        refine lv_iload_n hx hb d_PS_tryStep_48 rfl (lv_at hl 1 rfl) ?_
        refine lv_iload_n hx hb d_PS_tryStep_49 rfl (lv_at hl 0 rfl) ?_
        refine z_callVv hF (k_PS_tryDoor l D ad cI sd M p1 (xNow M p1) (xWants M p1 (M 0 4)) h1 h2 h3 h4 (by omega) (by have e9 := xWants_or M p1 (M 0 4); omega)) (hK.cV 3 tw_378 tw_375 tw_1 tw_377 ts_17 (by decide +kernel) rfl rfl ⟨Nat.le_of_ble_eq_true rfl, Nat.le_of_ble_eq_true rfl⟩) hK hX hS rfl rfl rfl hl.1 rfl (Nat.le_of_ble_eq_true rfl) d_PS_tryStep_50 ⟨Nat.zero_le _, Nat.zero_le _⟩ (fun u H locs hp hX hS => ?_)
        rw [hp] at hX
        refine lv_goto (tgt := 75) hx hb d_PS_tryStep_53 (by decide) ?_
        exact z_vret (post := fun u => u = xStep M p1) hx hb hr hlk hK hX hS (by unfold xStep; first | rw [if_pos (by omega)] | rw [if_neg (by omega), if_pos (by omega)] | rw [if_neg (by omega), if_neg (by omega), if_pos (by omega)] | rw [if_neg (by omega), if_neg (by omega), if_neg (by omega), if_pos (by omega)] | rw [if_neg (by omega), if_neg (by omega), if_neg (by omega), if_neg (by omega)]) d_PS_tryStep_75
    · skip
      refine lv_aload_n hx hb d_PS_tryStep_33 rfl (lv_at hl 2 rfl) ?_
      refine lv_iload_n hx hb d_PS_tryStep_34 rfl (lv_at hl 3 rfl) ?_
      refine z_callVv hF (k_PS_entr l D ad cI sd M p1 h1 h2) (hK.cV 1 tw_366 tw_363 tw_1 tw_365 ts_14 (by decide +kernel) rfl rfl ⟨Nat.le_of_ble_eq_true rfl, Nat.le_of_ble_eq_true rfl⟩) hK hX hS rfl rfl rfl hl.1 rfl (Nat.le_of_ble_eq_true rfl) d_PS_tryStep_35 ⟨Nat.zero_le _, Nat.zero_le _⟩ (fun u H locs hp hX hS => ?_)
      rw [hp] at hX
      refine lv_goto (tgt := 75) hx hb d_PS_tryStep_38 (by decide) ?_
      exact z_vret (post := fun u => u = xStep M p1) hx hb hr hlk hK hX hS (by unfold xStep; first | rw [if_pos (by omega)] | rw [if_neg (by omega), if_pos (by omega)] | rw [if_neg (by omega), if_neg (by omega), if_pos (by omega)] | rw [if_neg (by omega), if_neg (by omega), if_neg (by omega), if_pos (by omega)] | rw [if_neg (by omega), if_neg (by omega), if_neg (by omega), if_neg (by omega)]) d_PS_tryStep_75
  · skip
    exact z_vret (post := fun u => u = xStep M p1) hx hb hr hlk hK hX hS (by unfold xStep; first | rw [if_pos (by omega)] | rw [if_neg (by omega), if_pos (by omega)] | rw [if_neg (by omega), if_neg (by omega), if_pos (by omega)] | rw [if_neg (by omega), if_neg (by omega), if_neg (by omega), if_pos (by omega)] | rw [if_neg (by omega), if_neg (by omega), if_neg (by omega), if_neg (by omega)]) d_PS_tryStep_27
end
section
set_option maxHeartbeats 4000000 in
set_option maxRecDepth 100000 in
theorem k_Do_begin (l : Launch) (D : va_G) (ad : Nat → Nat) (cI : Nat → ClassId) (sd : Int64) (M : zM)  : zMv l y_Do_beginMinute (.code y_Do_beginMinute c_Do_beginMinute 1 (none)) { frames := 1, cells := 0, slots := 0, locals := 23 } D (xL sd) ad cI M [.ref (ad 2)] (fun u => u = xFill M 14 16 0) := by
  refine z_of (cc := c_Do_beginMinute) (maxL := 1) (ret := none) (own := "PersonSeeds$Doors") (by decide) rfl rfl (Nat.le_of_ble_eq_true rfl) ?_
  intro p e s m below meth c ls hF hr hX hK hl
  obtain ⟨hx, hb, hml, hown, hlk⟩ := id hF
  have hS : va_S (zA ad (xL sd)) s.heap s.heap [] := va_S.rf
  have hl : lv_has ls 1 [(0, .ref (ad 2))] := hl
  refine lv_aload_n hx hb d_Do_beginMinute_0 rfl (lv_at hl 0 rfl) ?_
  refine z_getr hx hb iw_Do hown hK hX 2 rfl rfl 6 (by decide) tw_67 (fun _ h => h) 14 rfl d_Do_beginMinute_1 ?_
  refine z_const hx hb d_Do_beginMinute_4 ?_
  refine z_callSv hF (k_fill l D (xL sd) ad cI M 14 16 0 rfl (by decide) (by omega)) (hK.cS 2 tw_57 tw_55 tw_4 tw_56 (by decide +kernel) rfl rfl ⟨Nat.le_of_ble_eq_true rfl, Nat.le_of_ble_eq_true rfl⟩) hK hX hS rfl hl.1 rfl (Nat.le_of_ble_eq_true rfl) d_Do_beginMinute_5 ⟨Nat.zero_le _, Nat.zero_le _⟩ (fun u H locs hp hX hS => ?_)
  rw [hp] at hX
  exact z_vret (post := fun u => u = xFill M 14 16 0) hx hb hr hlk hK hX hS rfl d_Do_beginMinute_8
set_option maxHeartbeats 4000000 in
set_option maxRecDepth 100000 in
theorem k_Do_add (l : Launch) (D : va_G) (ad : Nat → Nat) (cI : Nat → ClassId) (sd : Int64) (M : zM) (a b w : Int) (h0 : 0 ≤ M 2 0 ∧ M 2 0 < 16) (h1 : 0 ≤ a ∧ a < 12) (h2 : 0 ≤ b ∧ b < 12) (h4 : -2147483648 ≤ w ∧ w ≤ 2147483647) (h3 : ∀ x, 0 ≤ x → x < 144 → 0 ≤ M 15 x ∧ M 15 x ≤ 1000) : zMi l y_Do_add (.code y_Do_add c_Do_add 4 (some .int)) { frames := 2, cells := 0, slots := 0, locals := 49 } D (xL sd) ad cI M [.ref (ad 2), .int (zI (a)), .int (zI (b)), .int (zI (w))] (fun z u => z = (M 2 0) ∧ u = xDoorsAdd M a b w) := by
  refine z_of (cc := c_Do_add) (maxL := 4) (ret := some .int) (own := "PersonSeeds$Doors") (by decide) rfl rfl (Nat.le_of_ble_eq_true rfl) ?_
  intro p e s m below meth c ls hF hr hX hK hl
  obtain ⟨hx, hb, hml, hown, hlk⟩ := id hF
  have hS : va_S (zA ad (xL sd)) s.heap s.heap [] := va_S.rf
  have hl : lv_has ls 4 [(0, .ref (ad 2)), (1, .int (zI (a))), (2, .int (zI (b))), (3, .int (zI (w)))] := hl
  refine lv_aload_n hx hb d_Do_add_0 rfl (lv_at hl 0 rfl) ?_
  refine z_getr hx hb iw_Do hown hK hX 2 rfl rfl 1 (by decide) tw_60 (fun _ h => h) 9 rfl d_Do_add_1 ?_
  refine lv_aload_n hx hb d_Do_add_4 rfl (lv_at hl 0 rfl) ?_
  refine z_geti (i := 0) (v := M 2 0) hx hb iw_Do hown hK hX 2 rfl rfl 0 (by decide) tw_58 (fun _ h => h) rfl rfl rfl d_Do_add_5 (fun rg_1 => ?_)
  refine lv_iload_n hx hb d_Do_add_8 rfl (lv_at hl 1 rfl) ?_
  refine z_iast (i := M 2 0) (v := a) hx hb hK hX hS 9 rfl (by omega) (by decide) (by omega) d_Do_add_9 (fun H locs hX hS => ?_)
  refine lv_aload_n hx hb d_Do_add_10 rfl (lv_at hl 0 rfl) ?_
  refine z_getr hx hb iw_Do hown hK hX 2 rfl rfl 2 (by decide) tw_61 (fun _ h => h) 10 rfl d_Do_add_11 ?_
  refine lv_aload_n hx hb d_Do_add_14 rfl (lv_at hl 0 rfl) ?_
  refine z_geti (i := 0) (v := M 2 0) hx hb iw_Do hown hK hX 2 rfl rfl 0 (by decide) tw_58 (fun _ h => h) rfl rfl rfl d_Do_add_15 (fun rg_2 => ?_)
  refine lv_iload_n hx hb d_Do_add_18 rfl (lv_at hl 2 rfl) ?_
  refine z_iast (i := M 2 0) (v := b) hx hb hK hX hS 10 rfl (by omega) (by decide) (by omega) d_Do_add_19 (fun H locs hX hS => ?_)
  refine lv_aload_n hx hb d_Do_add_20 rfl (lv_at hl 0 rfl) ?_
  refine z_getr hx hb iw_Do hown hK hX 2 rfl rfl 3 (by decide) tw_62 (fun _ h => h) 11 rfl d_Do_add_21 ?_
  refine lv_aload_n hx hb d_Do_add_24 rfl (lv_at hl 0 rfl) ?_
  refine z_geti (i := 0) (v := M 2 0) hx hb iw_Do hown hK hX 2 rfl rfl 0 (by decide) tw_58 (fun _ h => h) rfl rfl rfl d_Do_add_25 (fun rg_3 => ?_)
  refine lv_iload_n hx hb d_Do_add_28 rfl (lv_at hl 3 rfl) ?_
  refine z_iast (i := M 2 0) (v := w) hx hb hK hX hS 11 rfl (by omega) (by decide) (by omega) d_Do_add_29 (fun H locs hX hS => ?_)
  refine lv_aload_n hx hb d_Do_add_30 rfl (lv_at hl 0 rfl) ?_
  refine lv_dup hx hb d_Do_add_31 rfl ?_
  refine z_geti (i := 0) (v := M 2 0) hx hb iw_Do hown hK hX 2 rfl rfl 0 (by decide) tw_58 (fun _ h => h) rfl rfl rfl d_Do_add_32 (fun rg_4 => ?_)
  refine z_const hx hb d_Do_add_35 ?_
  refine z_iadd hx hb d_Do_add_36 ?_
  refine z_puti (i := 0) (v := (M 2 0) + 1) hx hb iw_Do ty_Do tyo_Do n_Do hown hK hX hS 2 rfl rfl 0 (by decide) tw_58 (fun _ h => h) rfl (by decide +kernel) rfl rfl (by omega) d_Do_add_37 (fun H locs hX hS => ?_)
  refine lv_aload_n hx hb d_Do_add_40 rfl (lv_at hl 0 rfl) ?_
  refine lv_iload_n hx hb d_Do_add_41 rfl (lv_at hl 1 rfl) ?_
  refine lv_iload_n hx hb d_Do_add_42 rfl (lv_at hl 2 rfl) ?_
  refine z_callVv hF (k_Do_shorten l D ad cI sd (zU (zU (zU (zU M 9 (M 2 0) a) 10 (M 2 0) b) 11 (M 2 0) w) 2 0 ((M 2 0) + 1)) a b h1 h2 h3) (hK.cV 2 tw_308 tw_305 tw_3 tw_307 ts_6 (by decide +kernel) rfl rfl ⟨Nat.le_of_ble_eq_true rfl, Nat.le_of_ble_eq_true rfl⟩) hK hX hS rfl rfl rfl hl.1 rfl (Nat.le_of_ble_eq_true rfl) d_Do_add_43 ⟨Nat.zero_le _, Nat.zero_le _⟩ (fun u H locs hp hX hS => ?_)
  rw [hp] at hX
  refine lv_aload_n hx hb d_Do_add_46 rfl (lv_at hl 0 rfl) ?_
  refine z_geti (i := 0) (v := (xShN (zU (zU (zU (zU M 9 (M 2 0) a) 10 (M 2 0) b) 11 (M 2 0) w) 2 0 ((M 2 0) + 1)) a b 12) 2 0) hx hb iw_Do hown hK hX 2 rfl rfl 0 (by decide) tw_58 (fun _ h => h) rfl rfl rfl d_Do_add_47 (fun rg_5 => ?_)
  refine z_const hx hb d_Do_add_50 ?_
  refine z_isub hx hb d_Do_add_51 ?_
  exact z_iret (z := ((xShN (zU (zU (zU (zU M 9 (M 2 0) a) 10 (M 2 0) b) 11 (M 2 0) w) 2 0 ((M 2 0) + 1)) a b 12) 2 0) - 1) (post := fun z u => z = (M 2 0) ∧ u = xDoorsAdd M a b w) hx hb hr hlk hK hX hS (by have e9 := congrFun (xShN_k (M := zU (zU (zU (zU M 9 (M 2 0) a) 10 (M 2 0) b) 11 (M 2 0) w) 2 0 (M 2 0 + 1)) (A := a) (B := b) (c := 2) (by decide) 12) 0; rw [zU_s] at e9; omega) ⟨by have e9 := congrFun (xShN_k (M := zU (zU (zU (zU M 9 (M 2 0) a) 10 (M 2 0) b) 11 (M 2 0) w) 2 0 (M 2 0 + 1)) (A := a) (B := b) (c := 2) (by decide) 12) 0; rw [zU_s] at e9; omega, rfl⟩ d_Do_add_52
set_option maxHeartbeats 4000000 in
set_option maxRecDepth 100000 in
theorem k_Pe_add (l : Launch) (D : va_G) (ad : Nat → Nat) (cI : Nat → ClassId) (sd : Int64) (M : zM) (t n : Int) (h1 : 0 ≤ M 4 1) (h2 : M 4 1 + n ≤ 60) (h3 : 1 ≤ n) (h4 : -2147483648 ≤ t ∧ t ≤ 2147483647) : zMv l y_Pe_add (.code y_Pe_add c_Pe_add 5 (none)) { frames := 0, cells := 0, slots := 0, locals := 0 } D (xL sd) ad cI M [.ref (ad 4), .int (zI (t)), .int (zI (n))] (fun u => u = xPersAdd M t n) := by
  refine z_of (cc := c_Pe_add) (maxL := 5) (ret := none) (own := "PersonSeeds$Persons") (by decide) rfl rfl (Nat.le_of_ble_eq_true rfl) ?_
  intro p e s m below meth c ls hF hr hX hK hl
  obtain ⟨hx, hb, hml, hown, hlk⟩ := id hF
  have hS : va_S (zA ad (xL sd)) s.heap s.heap [] := va_S.rf
  have hl : lv_has ls 5 [(0, .ref (ad 4)), (1, .int (zI (t))), (2, .int (zI (n)))] := hl
  refine lv_aload_n hx hb d_Pe_add_0 rfl (lv_at hl 0 rfl) ?_
  refine z_geti (i := 1) (v := M 4 1) hx hb iw_Pe hown hK hX 4 rfl rfl 1 (by decide) tw_109 (fun _ h => h) rfl rfl rfl d_Pe_add_1 (fun rg_1 => ?_)
  refine lv_istore_n (lv' := [(3, .int (zI (M 4 1))), (0, .ref (ad 4)), (1, .int (zI (t))), (2, .int (zI (n)))]) hx hb d_Pe_add_4 rfl hl (by decide) rfl (fun ls hl => ?_)
  have loop5 : ∀ (n5 : Nat) (q : Int) (Mq : zM) (H : Heap) (locs : List Loc) (ls : Array Slot), (0 ≤ q ∧ q ≤ M 4 1 ∧ Mq 4 = M 4 ∧ xShiftN t n (M 4 1).toNat M = xShiftN t n q.toNat Mq) → q.toNat < n5 → zX D (xL sd) ad cI Mq H → va_S (zA ad (xL sd)) s.heap H locs → lv_has ls 5 [(3, .int (zI (q))), (0, .ref (ad 4)), (1, .int (zI (t))), (2, .int (zI (n)))] → W p l e { frames := 0, cells := 0, slots := 0, locals := 0 } s m ([.ref (ad 4), .int (zI (t)), .int (zI (n))] : List Value).toArray below meth c H locs 0 0 (MQ below (zQv D (xL sd) ad cI (fun u => u = xPersAdd M t n)) ([.ref (ad 4), .int (zI (t)), .int (zI (n))] : List Value).toArray s 0 0 (zA ad (xL sd))) (F0 m 5 ls []) := by
    intro n5
    induction n5 with
    | zero => intro q Mq H locs ls hI hn; exact absurd hn (Nat.not_lt_zero _)
    | succ n5 ih5 =>
      intro q Mq H locs ls hI5 hn5 hX hS hl
      refine lv_iload_n hx hb d_Pe_add_5 rfl (lv_at hl 0 rfl) ?_
      refine z_if_le (a := q) (tgt := 41) hx hb d_Pe_add_6 (by decide) (by omega) (fun hb_2 => ?_) (fun hb_3 => ?_)
      · skip
        refine z_const hx hb d_Pe_add_41 ?_
        refine lv_istore (lv' := [(4, .int (zI (0))), (3, .int (zI (q))), (0, .ref (ad 4)), (1, .int (zI (t))), (2, .int (zI (n)))]) hx hb d_Pe_add_42 hl (by decide) rfl (fun ls hl => ?_)
        have loop44 : ∀ (n44 : Nat) (j : Nat) (H : Heap) (locs : List Loc) (ls : Array Slot), (j : Int) ≤ n → n.toNat - j < n44 → zX D (xL sd) ad cI (xPutN Mq t q j) H → va_S (zA ad (xL sd)) s.heap H locs → lv_has ls 5 [(4, .int (zI ((j : Int)))), (3, .int (zI (q))), (0, .ref (ad 4)), (1, .int (zI (t))), (2, .int (zI (n)))] → W p l e { frames := 0, cells := 0, slots := 0, locals := 0 } s m ([.ref (ad 4), .int (zI (t)), .int (zI (n))] : List Value).toArray below meth c H locs 0 0 (MQ below (zQv D (xL sd) ad cI (fun u => u = xPersAdd M t n)) ([.ref (ad 4), .int (zI (t)), .int (zI (n))] : List Value).toArray s 0 0 (zA ad (xL sd))) (F0 m 44 ls []) := by
          intro n44
          induction n44 with
          | zero => intro j H locs ls hI hn; exact absurd hn (Nat.not_lt_zero _)
          | succ n44 ih44 =>
            intro j H locs ls hI44 hn44 hX hS hl
            have e1 : xPutN Mq t q j 4 1 = M 4 1 := by rw [xPutN_c (by decide), hI5.2.2.1]
            refine lv_iload hx hb d_Pe_add_44 (lv_at hl 0 rfl) ?_
            refine lv_iload_n hx hb d_Pe_add_46 rfl (lv_at hl 4 rfl) ?_
            refine z_icmp_ge (a := (j : Int)) (b := n) (tgt := 66) hx hb d_Pe_add_47 (by decide) (by omega) (fun hb_4 => ?_) (fun hb_5 => ?_)
            · skip
              refine lv_aload_n hx hb d_Pe_add_66 rfl (lv_at hl 2 rfl) ?_
              refine lv_dup hx hb d_Pe_add_67 rfl ?_
              refine z_geti (i := 1) (v := (xPutN Mq t q j) 4 1) hx hb iw_Pe hown hK hX 4 rfl rfl 1 (by decide) tw_109 (fun _ h => h) rfl rfl rfl d_Pe_add_68 (fun rg_6 => ?_)
              refine lv_iload_n hx hb d_Pe_add_71 rfl (lv_at hl 4 rfl) ?_
              refine z_iadd hx hb d_Pe_add_72 ?_
              refine z_puti (i := 1) (v := ((xPutN Mq t q j) 4 1) + n) hx hb iw_Pe ty_Pe tyo_Pe n_Pe hown hK hX hS 4 rfl rfl 1 (by decide) tw_109 (fun _ h => h) rfl (by decide +kernel) rfl rfl (by omega) d_Pe_add_73 (fun H locs hX hS => ?_)
              exact z_vret (post := fun u => u = xPersAdd M t n) hx hb hr hlk hK hX hS (by unfold xPersAdd; rw [hI5.2.2.2, xShiftN_e hI5.1 (by omega)]; show _ = zU (xPutN Mq t ((q.toNat : Nat) : Int) n.toNat) 4 1 (M 4 1 + n); rw [e1, show ((q.toNat : Nat) : Int) = q by omega, show j = n.toNat by omega]) d_Pe_add_76
            · skip
              refine lv_aload_n hx hb d_Pe_add_50 rfl (lv_at hl 2 rfl) ?_
              refine z_getr hx hb iw_Pe hown hK hX 4 rfl rfl 2 (by decide) tw_111 (fun _ h => h) 19 rfl d_Pe_add_51 ?_
              refine lv_iload_n hx hb d_Pe_add_54 rfl (lv_at hl 1 rfl) ?_
              refine lv_iload hx hb d_Pe_add_55 (lv_at hl 0 rfl) ?_
              refine z_iadd hx hb d_Pe_add_57 ?_
              refine lv_iload_n hx hb d_Pe_add_58 rfl (lv_at hl 3 rfl) ?_
              refine z_iast (i := q + (j : Int)) (v := t) hx hb hK hX hS 19 rfl (by omega) (by decide) (by omega) d_Pe_add_59 (fun H locs hX hS => ?_)
              refine z_iinc (lv' := [(4, .int (zI ((j : Int) + 1))), (3, .int (zI (q))), (0, .ref (ad 4)), (1, .int (zI (t))), (2, .int (zI (n)))]) hx hb d_Pe_add_60 hl (k := 0) rfl (by decide) rfl (fun ls hl => ?_)
              refine lv_goto (tgt := 44) hx hb d_Pe_add_63 (by decide) ?_
              exact ih44 (j + 1) _ _ _ (by omega) (by omega) hX hS (lv_sub hl [0, 1, 2, 3, 4] rfl)
        exact loop44 _ 0 _ _ _ (by omega) (Nat.lt_succ_self _) hX hS (lv_sub hl [0, 1, 2, 3, 4] rfl)
      · skip
        refine lv_aload_n hx hb d_Pe_add_9 rfl (lv_at hl 1 rfl) ?_
        refine z_getr hx hb iw_Pe hown hK hX 4 rfl rfl 2 (by decide) tw_111 (fun _ h => h) 19 rfl d_Pe_add_10 ?_
        refine lv_iload_n hx hb d_Pe_add_13 rfl (lv_at hl 0 rfl) ?_
        refine z_const hx hb d_Pe_add_14 ?_
        refine z_isub hx hb d_Pe_add_15 ?_
        refine z_iald (i := q - 1) (v := Mq 19 (q - 1)) hx hb hK hX 19 rfl (by omega) (by decide) rfl d_Pe_add_16 (fun rg_7 => ?_)
        refine lv_iload_n hx hb d_Pe_add_17 rfl (lv_at hl 2 rfl) ?_
        refine z_icmp_le (a := Mq 19 (q - 1)) (b := t) (tgt := 41) hx hb d_Pe_add_18 (by decide) (by omega) (fun hb_8 => ?_) (fun hb_9 => ?_)
        · skip
          refine z_const hx hb d_Pe_add_41 ?_
          refine lv_istore (lv' := [(4, .int (zI (0))), (3, .int (zI (q))), (0, .ref (ad 4)), (1, .int (zI (t))), (2, .int (zI (n)))]) hx hb d_Pe_add_42 hl (by decide) rfl (fun ls hl => ?_)
          have loop44 : ∀ (n44 : Nat) (j : Nat) (H : Heap) (locs : List Loc) (ls : Array Slot), (j : Int) ≤ n → n.toNat - j < n44 → zX D (xL sd) ad cI (xPutN Mq t q j) H → va_S (zA ad (xL sd)) s.heap H locs → lv_has ls 5 [(4, .int (zI ((j : Int)))), (3, .int (zI (q))), (0, .ref (ad 4)), (1, .int (zI (t))), (2, .int (zI (n)))] → W p l e { frames := 0, cells := 0, slots := 0, locals := 0 } s m ([.ref (ad 4), .int (zI (t)), .int (zI (n))] : List Value).toArray below meth c H locs 0 0 (MQ below (zQv D (xL sd) ad cI (fun u => u = xPersAdd M t n)) ([.ref (ad 4), .int (zI (t)), .int (zI (n))] : List Value).toArray s 0 0 (zA ad (xL sd))) (F0 m 44 ls []) := by
            intro n44
            induction n44 with
            | zero => intro j H locs ls hI hn; exact absurd hn (Nat.not_lt_zero _)
            | succ n44 ih44 =>
              intro j H locs ls hI44 hn44 hX hS hl
              have e1 : xPutN Mq t q j 4 1 = M 4 1 := by rw [xPutN_c (by decide), hI5.2.2.1]
              refine lv_iload hx hb d_Pe_add_44 (lv_at hl 0 rfl) ?_
              refine lv_iload_n hx hb d_Pe_add_46 rfl (lv_at hl 4 rfl) ?_
              refine z_icmp_ge (a := (j : Int)) (b := n) (tgt := 66) hx hb d_Pe_add_47 (by decide) (by omega) (fun hb_10 => ?_) (fun hb_11 => ?_)
              · skip
                refine lv_aload_n hx hb d_Pe_add_66 rfl (lv_at hl 2 rfl) ?_
                refine lv_dup hx hb d_Pe_add_67 rfl ?_
                refine z_geti (i := 1) (v := (xPutN Mq t q j) 4 1) hx hb iw_Pe hown hK hX 4 rfl rfl 1 (by decide) tw_109 (fun _ h => h) rfl rfl rfl d_Pe_add_68 (fun rg_12 => ?_)
                refine lv_iload_n hx hb d_Pe_add_71 rfl (lv_at hl 4 rfl) ?_
                refine z_iadd hx hb d_Pe_add_72 ?_
                refine z_puti (i := 1) (v := ((xPutN Mq t q j) 4 1) + n) hx hb iw_Pe ty_Pe tyo_Pe n_Pe hown hK hX hS 4 rfl rfl 1 (by decide) tw_109 (fun _ h => h) rfl (by decide +kernel) rfl rfl (by omega) d_Pe_add_73 (fun H locs hX hS => ?_)
                exact z_vret (post := fun u => u = xPersAdd M t n) hx hb hr hlk hK hX hS (by unfold xPersAdd; rw [hI5.2.2.2, xShiftN_e hI5.1 (by omega)]; show _ = zU (xPutN Mq t ((q.toNat : Nat) : Int) n.toNat) 4 1 (M 4 1 + n); rw [e1, show ((q.toNat : Nat) : Int) = q by omega, show j = n.toNat by omega]) d_Pe_add_76
              · skip
                refine lv_aload_n hx hb d_Pe_add_50 rfl (lv_at hl 2 rfl) ?_
                refine z_getr hx hb iw_Pe hown hK hX 4 rfl rfl 2 (by decide) tw_111 (fun _ h => h) 19 rfl d_Pe_add_51 ?_
                refine lv_iload_n hx hb d_Pe_add_54 rfl (lv_at hl 1 rfl) ?_
                refine lv_iload hx hb d_Pe_add_55 (lv_at hl 0 rfl) ?_
                refine z_iadd hx hb d_Pe_add_57 ?_
                refine lv_iload_n hx hb d_Pe_add_58 rfl (lv_at hl 3 rfl) ?_
                refine z_iast (i := q + (j : Int)) (v := t) hx hb hK hX hS 19 rfl (by omega) (by decide) (by omega) d_Pe_add_59 (fun H locs hX hS => ?_)
                refine z_iinc (lv' := [(4, .int (zI ((j : Int) + 1))), (3, .int (zI (q))), (0, .ref (ad 4)), (1, .int (zI (t))), (2, .int (zI (n)))]) hx hb d_Pe_add_60 hl (k := 0) rfl (by decide) rfl (fun ls hl => ?_)
                refine lv_goto (tgt := 44) hx hb d_Pe_add_63 (by decide) ?_
                exact ih44 (j + 1) _ _ _ (by omega) (by omega) hX hS (lv_sub hl [0, 1, 2, 3, 4] rfl)
          exact loop44 _ 0 _ _ _ (by omega) (Nat.lt_succ_self _) hX hS (lv_sub hl [0, 1, 2, 3, 4] rfl)
        · skip
          refine z_iinc (lv' := [(3, .int (zI (q + (-1)))), (0, .ref (ad 4)), (1, .int (zI (t))), (2, .int (zI (n)))]) hx hb d_Pe_add_21 hl (k := 0) rfl (by decide) rfl (fun ls hl => ?_)
          refine lv_aload_n hx hb d_Pe_add_24 rfl (lv_at hl 1 rfl) ?_
          refine z_getr hx hb iw_Pe hown hK hX 4 rfl rfl 2 (by decide) tw_111 (fun _ h => h) 19 rfl d_Pe_add_25 ?_
          refine lv_iload_n hx hb d_Pe_add_28 rfl (lv_at hl 0 rfl) ?_
          refine lv_iload_n hx hb d_Pe_add_29 rfl (lv_at hl 3 rfl) ?_
          refine z_iadd hx hb d_Pe_add_30 ?_
          refine lv_aload_n hx hb d_Pe_add_31 rfl (lv_at hl 1 rfl) ?_
          refine z_getr hx hb iw_Pe hown hK hX 4 rfl rfl 2 (by decide) tw_111 (fun _ h => h) 19 rfl d_Pe_add_32 ?_
          refine lv_iload_n hx hb d_Pe_add_35 rfl (lv_at hl 0 rfl) ?_
          refine z_iald (i := q + (-1)) (v := Mq 19 (q + (-1))) hx hb hK hX 19 rfl (by omega) (by decide) rfl d_Pe_add_36 (fun rg_13 => ?_)
          refine z_iast (i := (q + (-1)) + n) (v := Mq 19 (q + (-1))) hx hb hK hX hS 19 rfl (by omega) (by decide) (by omega) d_Pe_add_37 (fun H locs hX hS => ?_)
          refine lv_goto (tgt := 5) hx hb d_Pe_add_38 (by decide) ?_
          exact ih5 (q + (-1)) (zU Mq 19 ((q + (-1)) + n) (Mq 19 (q + (-1)))) _ _ _ ⟨by omega, by omega, (zU_k (by decide)).trans hI5.2.2.1, hI5.2.2.2.trans (xShiftN_s (by omega) (by omega))⟩ (by omega) hX hS (lv_sub hl [0, 1, 2, 3] rfl)
  exact loop5 _ (M 4 1) M _ _ _ ⟨by omega, by omega, rfl, rfl⟩ (Nat.lt_succ_self _) hX hS (lv_sub hl [0, 1, 2, 3] rfl)
set_option maxHeartbeats 4000000 in
set_option maxRecDepth 100000 in
theorem k_PS_minute (l : Launch) (D : va_G) (ad : Nat → Nat) (cI : Nat → ClassId) (sd : Int64) (M : zM) (h1 : xOK M) (h2 : M 0 4 < 2000) : zMv l y_PS_passMinute (.code y_PS_passMinute c_PS_passMinute 2 (none)) { frames := 4, cells := 0, slots := 0, locals := 95 } D (xL sd) ad cI M [.ref (ad 0)] (fun u => u = xMin M) := by
  refine z_of (cc := c_PS_passMinute) (maxL := 2) (ret := none) (own := "PersonSeeds") (by decide) rfl rfl (Nat.le_of_ble_eq_true rfl) ?_
  intro p e s m below meth c ls hF hr hX hK hl
  obtain ⟨hx, hb, hml, hown, hlk⟩ := id hF
  have hS : va_S (zA ad (xL sd)) s.heap s.heap [] := va_S.rf
  have hl : lv_has ls 2 [(0, .ref (ad 0))] := hl
  refine lv_aload_n hx hb d_PS_passMinute_0 rfl (lv_at hl 0 rfl) ?_
  refine z_getr hx hb iw_PS hown hK hX 0 rfl rfl 1 (by decide) tw_145 (fun _ h => h) 2 rfl d_PS_passMinute_1 ?_
  refine z_callVNv hF (k_Do_begin l D ad cI sd M  ) (hK.cN 0 tw_350 tw_347 tw_3 tw_349 ts_10 (by decide +kernel) rfl rfl ⟨Nat.le_of_ble_eq_true rfl, Nat.le_of_ble_eq_true rfl⟩) hK hX hS rfl rfl rfl hl.1 rfl (Nat.le_of_ble_eq_true rfl) d_PS_passMinute_4 ⟨Nat.zero_le _, Nat.zero_le _⟩ (fun u H locs hp hX hS => ?_)
  rw [hp] at hX
  refine z_const hx hb d_PS_passMinute_7 ?_
  refine lv_istore_n (lv' := [(1, .int (zI (0))), (0, .ref (ad 0))]) hx hb d_PS_passMinute_8 rfl hl (by decide) rfl (fun ls hl => ?_)
  have loop9 : ∀ (n9 : Nat) (k : Nat) (Mq : zM) (H : Heap) (locs : List Loc) (ls : Array Slot), ((k : Int) ≤ 60 ∧ xOK Mq ∧ Mq 0 4 < 2000 ∧ xStepN (M 4 1).toNat 0 (xFill M 14 16 0) = xStepN ((Mq 4 1).toNat - k) k Mq) → 60 - k < n9 → zX D (xL sd) ad cI Mq H → va_S (zA ad (xL sd)) s.heap H locs → lv_has ls 2 [(1, .int (zI ((k : Int)))), (0, .ref (ad 0))] → W p l e { frames := 4, cells := 0, slots := 0, locals := 95 } s m ([.ref (ad 0)] : List Value).toArray below meth c H locs 0 0 (MQ below (zQv D (xL sd) ad cI (fun u => u = xMin M)) ([.ref (ad 0)] : List Value).toArray s 0 0 (zA ad (xL sd))) (F0 m 9 ls []) := by
    intro n9
    induction n9 with
    | zero => intro k Mq H locs ls hI hn; exact absurd hn (Nat.not_lt_zero _)
    | succ n9 ih9 =>
      intro k Mq H locs ls hI9 hn9 hX hS hl
      have o1 := hI9.2.1.1
      have o3 := hI9.2.1.2.2.1
      have o4 := hI9.2.1.2.2.2.1
      have o5 : xEnd Mq 0 4 = Mq 0 4 := by unfold xEnd; rw [xEndN_c (by decide) (by decide)]
      refine lv_iload_n hx hb d_PS_passMinute_9 rfl (lv_at hl 0 rfl) ?_
      refine lv_aload_n hx hb d_PS_passMinute_10 rfl (lv_at hl 1 rfl) ?_
      refine z_getr hx hb iw_PS hown hK hX 0 rfl rfl 3 (by decide) tw_147 (fun _ h => h) 4 rfl d_PS_passMinute_11 ?_
      refine z_getiN (i := 1) (v := Mq 4 1) hx hb iw_Pe hown hK hX 4 rfl rfl 1 (by decide) tw_110 (fun _ h => h) rfl rfl rfl d_PS_passMinute_14 (fun rg_1 => ?_)
      refine z_icmp_ge (a := (k : Int)) (b := Mq 4 1) (tgt := 47) hx hb d_PS_passMinute_17 (by decide) (by omega) (fun hb_2 => ?_) (fun hb_3 => ?_)
      · skip
        refine lv_aload_n hx hb d_PS_passMinute_47 rfl (lv_at hl 1 rfl) ?_
        refine z_getr hx hb iw_PS hown hK hX 0 rfl rfl 0 (by decide) tw_144 (fun _ h => h) 1 rfl d_PS_passMinute_48 ?_
        refine z_callVNv hF (k_Ro_end l D ad cI sd Mq  o1) (hK.cN 0 tw_403 tw_400 tw_2 tw_402 ts_23 (by decide +kernel) rfl rfl ⟨Nat.le_of_ble_eq_true rfl, Nat.le_of_ble_eq_true rfl⟩) hK hX hS rfl rfl rfl hl.1 rfl (Nat.le_of_ble_eq_true rfl) d_PS_passMinute_51 ⟨Nat.zero_le _, Nat.zero_le _⟩ (fun u H locs hp hX hS => ?_)
        rw [hp] at hX
        refine lv_aload_n hx hb d_PS_passMinute_54 rfl (lv_at hl 1 rfl) ?_
        refine lv_dup hx hb d_PS_passMinute_55 rfl ?_
        refine z_geti (i := 4) (v := (xEnd Mq) 0 4) hx hb iw_PS hown hK hX 0 rfl rfl 4 (by decide) tw_148 (fun _ h => h) rfl rfl rfl d_PS_passMinute_56 (fun rg_4 => ?_)
        refine z_const hx hb d_PS_passMinute_59 ?_
        refine z_iadd hx hb d_PS_passMinute_60 ?_
        refine z_puti (i := 4) (v := ((xEnd Mq) 0 4) + 1) hx hb iw_PS ty_PS tyo_PS n_PS hown hK hX hS 0 rfl rfl 4 (by decide) tw_148 (fun _ h => h) rfl (by decide +kernel) rfl rfl (by omega) d_PS_passMinute_61 (fun H locs hX hS => ?_)
        exact z_vret (post := fun u => u = xMin M) hx hb hr hlk hK hX hS (by unfold xMin xMinA; rw [hI9.2.2.2, xStepN_stop (by omega)]) d_PS_passMinute_64
      · skip
        refine lv_aload_n hx hb d_PS_passMinute_20 rfl (lv_at hl 1 rfl) ?_
        refine z_getr hx hb iw_PS hown hK hX 0 rfl rfl 3 (by decide) tw_147 (fun _ h => h) 4 rfl d_PS_passMinute_21 ?_
        refine z_getrN hx hb iw_Pe hown hK hX 4 rfl rfl 2 (by decide) tw_112 (fun _ h => h) 19 rfl d_PS_passMinute_24 ?_
        refine lv_iload_n hx hb d_PS_passMinute_27 rfl (lv_at hl 0 rfl) ?_
        refine z_iald (i := (k : Int)) (v := Mq 19 (k : Int)) hx hb hK hX 19 rfl (by omega) (by decide) rfl d_PS_passMinute_28 (fun rg_5 => ?_)
        refine lv_aload_n hx hb d_PS_passMinute_29 rfl (lv_at hl 1 rfl) ?_
        refine z_geti (i := 4) (v := Mq 0 4) hx hb iw_PS hown hK hX 0 rfl rfl 4 (by decide) tw_148 (fun _ h => h) rfl rfl rfl d_PS_passMinute_30 (fun rg_6 => ?_)
        refine z_icmp_gt (a := Mq 19 (k : Int)) (b := Mq 0 4) (tgt := 47) hx hb d_PS_passMinute_33 (by decide) (by omega) (fun hb_7 => ?_) (fun hb_8 => ?_)
        · skip
          refine lv_aload_n hx hb d_PS_passMinute_47 rfl (lv_at hl 1 rfl) ?_
          refine z_getr hx hb iw_PS hown hK hX 0 rfl rfl 0 (by decide) tw_144 (fun _ h => h) 1 rfl d_PS_passMinute_48 ?_
          refine z_callVNv hF (k_Ro_end l D ad cI sd Mq  o1) (hK.cN 0 tw_403 tw_400 tw_2 tw_402 ts_23 (by decide +kernel) rfl rfl ⟨Nat.le_of_ble_eq_true rfl, Nat.le_of_ble_eq_true rfl⟩) hK hX hS rfl rfl rfl hl.1 rfl (Nat.le_of_ble_eq_true rfl) d_PS_passMinute_51 ⟨Nat.zero_le _, Nat.zero_le _⟩ (fun u H locs hp hX hS => ?_)
          rw [hp] at hX
          refine lv_aload_n hx hb d_PS_passMinute_54 rfl (lv_at hl 1 rfl) ?_
          refine lv_dup hx hb d_PS_passMinute_55 rfl ?_
          refine z_geti (i := 4) (v := (xEnd Mq) 0 4) hx hb iw_PS hown hK hX 0 rfl rfl 4 (by decide) tw_148 (fun _ h => h) rfl rfl rfl d_PS_passMinute_56 (fun rg_9 => ?_)
          refine z_const hx hb d_PS_passMinute_59 ?_
          refine z_iadd hx hb d_PS_passMinute_60 ?_
          refine z_puti (i := 4) (v := ((xEnd Mq) 0 4) + 1) hx hb iw_PS ty_PS tyo_PS n_PS hown hK hX hS 0 rfl rfl 4 (by decide) tw_148 (fun _ h => h) rfl (by decide +kernel) rfl rfl (by omega) d_PS_passMinute_61 (fun H locs hX hS => ?_)
          exact z_vret (post := fun u => u = xMin M) hx hb hr hlk hK hX hS (by unfold xMin xMinA; rw [hI9.2.2.2, xStepN_stop (by omega)]) d_PS_passMinute_64
        · skip
          refine lv_aload_n hx hb d_PS_passMinute_36 rfl (lv_at hl 1 rfl) ?_
          refine lv_iload_n hx hb d_PS_passMinute_37 rfl (lv_at hl 0 rfl) ?_
          refine z_callVv hF (k_PS_step l D ad cI sd Mq (k : Int) (by omega) (hI9.2.1.2.2.2.2.2.2.1 _ (by omega) (by omega)) hI9.2.1.2.1 hI9.2.1.2.2.2.2.1 (xNow_ok hI9.2.1 (by omega) (by omega)) (hI9.2.1.2.2.2.2.2.2.2.2.1 _ (by omega) (by omega))) (hK.cV 1 tw_354 tw_351 tw_1 tw_353 ts_11 (by decide +kernel) rfl rfl ⟨Nat.le_of_ble_eq_true rfl, Nat.le_of_ble_eq_true rfl⟩) hK hX hS rfl rfl rfl hl.1 rfl (Nat.le_of_ble_eq_true rfl) d_PS_passMinute_38 ⟨Nat.zero_le _, Nat.zero_le _⟩ (fun u H locs hp hX hS => ?_)
          rw [hp] at hX
          refine z_iinc (lv' := [(1, .int (zI ((k : Int) + 1))), (0, .ref (ad 0))]) hx hb d_PS_passMinute_41 hl (k := 0) rfl (by decide) rfl (fun ls hl => ?_)
          refine lv_goto (tgt := 9) hx hb d_PS_passMinute_44 (by decide) ?_
          exact ih9 (k + 1) (xStep Mq (k : Int)) _ _ _ (xMin_s hI9 (by omega) (by omega)) (by omega) hX hS (lv_sub hl [0, 1] rfl)
  exact loop9 _ 0 (xFill M 14 16 0) _ _ _ ⟨by omega, xFill_ok h1, h2, rfl⟩ (Nat.lt_succ_self _) hX hS (lv_sub hl [0, 1] rfl)
end
section
/-! Own layer: methods that may throw. What a throw needs of the start; contracts; calls that let it through -/
def isCast (w : Cond) : Bool := match w with
  | .castable _ _ => true
  | .declares _ => true
  | _ => false
theorem zK.wc {D : va_G} {cI : Nat → ClassId} {U : State} (h : zK D cI U) {w : Cond} {args : Array Value} (hm : w ∈ lw_tbl) (hg : (goodWord w || isCast w) = true) : w.before args U = true := by
  by_cases g : goodWord w = true
  · exact h.w hm g
  · have hc : isCast w = true := by
      cases hgw : goodWord w
      · rw [hgw] at hg; exact hg
      · exact absurd hgw g
    obtain ⟨-, a0, s0, h2, h3⟩ := h
    have h4 := h3 _ hm
    cases w with
    | castable a b =>
      have h5 : (Cond.castable a b).before a0 (s0.setVm U.vm) = true := by rw [Cond.castable_setVm h2.alike]; exact h4
      exact va_tabs rfl (rfl : (s0.setVm U.vm).vm = U.vm) h5
    | declares y =>
      have h5 : (Cond.declares y).before a0 (s0.setVm U.vm) = true := by rw [Cond.declares_setVm h2.alike]; exact h4
      exact va_tabs rfl (rfl : (s0.setVm U.vm).vm = U.vm) h5
    | _ => cases hc
def zTh (ad : Nat → Nat) (L : List zC) (U : State) (H : Heap) : Prop :=
  vx_Zq Bundle.tN "UNASSIGNED_STACK" Bundle.steD (zA ad L) U H ∧ vx_Zq Bundle.tN "SUPPRESSED_SENTINEL" Bundle.listD (zA ad L) U H ∧
  ∃ a1 a2 a3 : Nat, vk_R "PersonSeeds" 155 "out of bounds, or there is no such one" a1 U ∧ vk_R "PersonSeeds" 160 "both are one" a2 U ∧ vk_R "PersonSeeds" 164 "not now, or no more of these" a3 U
theorem zTh.warm {ad : Nat → Nat} {L : List zC} {u U : State} {H : Heap} (hW : u.WarmedH U.vm) (h : zTh ad L u H) : zTh ad L U H := by
  obtain ⟨h1, h2, a1, a2, a3, h3, h4, h5⟩ := h
  exact ⟨vx_Zq.moved hW.alike h1, vx_Zq.moved hW.alike h2, a1, a2, a3, vk_R.warm hW h3, vk_R.warm hW h4, vk_R.warm hW h5⟩
theorem zTh.kept {ad : Nat → Nat} {L : List zC} {U : State} {H H1 : Heap} (h : zTh ad L U H) (hq : ∀ a : Nat, a < H.size → ¬ zA ad L a → H1[a]? = H[a]?) : zTh ad L U H1 := by
  obtain ⟨h1, h2, h3⟩ := h
  exact ⟨h1.kept hq, h2.kept hq, h3⟩
def zTP (D : va_G) (L : List zC) (ad : Nat → Nat) (cI : Nat → ClassId) (M : zM) (U : State) : Prop := zX D L ad cI M U.heap ∧ zK D cI U ∧ zTh ad L U U.heap
def zXc (D : va_G) (L : List zC) (ad : Nat → Nat) (cI : Nat → ClassId) (M : zM) (bad : String → Prop) : String → State → State → Prop :=
  vx_X (fun (_ : Unit) => True) (fun E _ t => bad E ∧ zX D L ad cI M t.heap) (zA ad L)
def zTi (l : Launch) (y : MethodName) (w : Cond) (rm : Room) (D : va_G) (L : List zC) (ad : Nat → Nat) (cI : Nat → ClassId) (M : zM) (av : List Value) (post : Int → zM → Prop) (bad : String → Prop) (mc ms : Nat) : Prop :=
  vx_Met l y [w] rm (va_Pc av (zTP D L ad cI M)) (zQi D L ad cI post) (zXc D L ad cI M bad) mc ms (zA ad L)
def zTv (l : Launch) (y : MethodName) (w : Cond) (rm : Room) (D : va_G) (L : List zC) (ad : Nat → Nat) (cI : Nat → ClassId) (M : zM) (av : List Value) (post : zM → Prop) (bad : String → Prop) (mc ms : Nat) : Prop :=
  vx_Met l y [w] rm (va_Pc av (zTP D L ad cI M)) (zQv D L ad cI post) (zXc D L ad cI M bad) mc ms (zA ad L)
theorem zt_of {l : Launch} {y : MethodName} {ws ws' : List Cond} {rm : Room} {D : va_G} {L : List zC} {ad : Nat → Nat} {cI : Nat → ClassId} {M : zM} {av : List Value} {Qc : Array Value → State → Outcome → State → Prop} {XC : String → State → State → Prop} {mc ms : Nat} {free : Addr → Prop} {cc : ByteArray} {maxL : Nat} {ret : Option FieldType} {own : String}
    (hy : plainName y.cls = true) (hw : ws = Cond.code y cc maxL ret :: ws') (ho : y.cls = own) (hlen : (lg_sl av).length ≤ maxL)
    (body : ∀ (p : Program) (e : Env) (s : State) (m : MethodId) (below : List Frame) (meth : Method) (c : Code) (ls : Array Slot), zB p s m meth c cc maxL own → meth.sig.returnType = ret → (∀ x ∈ c.exceptionTable.toList, False) → zX D L ad cI M s.heap → zK D cI s → zTh ad L s s.heap → lv_has ls maxL (lv_args 0 av) →
      W p l e rm s m av.toArray below meth c s.heap [] 0 0 (vx_MQ below Qc XC av.toArray s mc ms free) (F0 m 0 ls [])) : vx_Met l y ws rm (va_Pc av (zTP D L ad cI M)) Qc XC mc ms free := by
  refine vx_ofW (cc := cc) (maxL := maxL) (ret := ret) hy hw ?_
  intro p e s m args below meth c s₁ B hml hT hv
  obtain ⟨rfl, hX, hK, hth⟩ := hv
  rw [lg_entry_eq]
  refine body p e s m below meth c _ ⟨B.exec, B.bytes, hml, ?_, B.notSynchronized⟩ B.returns hT hX hK hth (lv_entry av hlen)
  rw [← ho]
  exact findClass_of_methodNamed B.named
theorem zt_IAE : (vx_atS "PersonSeeds" 157 "java/lang/IllegalArgumentException" ["java/lang/RuntimeException", "java/lang/Exception"]).all (fun w => decide (w ∈ lw_tbl) && (goodWord w || isCast w) && vx_ot w) = true := by decide +kernel
theorem zt_ISE : (vx_atS "PersonSeeds" 166 "java/lang/IllegalStateException" ["java/lang/RuntimeException", "java/lang/Exception"]).all (fun w => decide (w ∈ lw_tbl) && (goodWord w || isCast w) && vx_ot w) = true := by decide +kernel
section ZTHROW
variable {p : Program} {l : Launch} {e : Env} {R : Room} {s : State} {m : MethodId} {args : Array Value} {below : List Frame} {meth : Method} {c : Code} {H : Heap} {locs : List Loc} {cells slots : Nat}
variable {cc : ByteArray} {pc : Nat} {ls : Array Slot} {rest : List Value}
variable {D : va_G} {L : List zC} {ad : Nat → Nat} {cI : Nat → ClassId} {M M0 : zM} {bad : String → Prop} {mc ms : Nat}
theorem zt_blind {av : List Value} : FrameBlind (va_Pc av (zTP D L ad cI M)) := fun a U g mk q => ⟨q.1, q.2.1, zK.warm (u := U) (U := U.calling g mk a) (State.WarmedH.refl U) q.2.2.1, zTh.warm (u := U) (U := U.calling g mk a) (State.WarmedH.refl U) q.2.2.2⟩
theorem zt_iret {post : Int → zM → Prop} {XC : String → State → State → Prop} {z : Int} (hx : p.tables.exec = Jvm.exec) (hb : c.code = cc) (hr : meth.sig.returnType = some .int) (hlk : meth.locks = false) (hK : zK D cI s) (hX : zX D L ad cI M H) (hS : va_S (zA ad L) s.heap H locs) (hv : -2147483648 ≤ z ∧ z ≤ 2147483647) (hp : post z M) (hc : cells ≤ mc) (hs : slots ≤ ms) (hdg : decode cc pc = .ok (.ireturn, 1)) :
    W p l e R s m args below meth c H locs cells slots (vx_MQ below (zQi D L ad cI post) XC args s mc ms (zA ad L)) (F0 m pc ls [.int (zI z)]) :=
  vx_ret (W.widen hc hs (z_iret hx hb hr hlk hK hX hS hv hp hdg))
theorem zt_vret {post : zM → Prop} {XC : String → State → State → Prop} (hx : p.tables.exec = Jvm.exec) (hb : c.code = cc) (hr : meth.sig.returnType = none) (hlk : meth.locks = false) (hK : zK D cI s) (hX : zX D L ad cI M H) (hS : va_S (zA ad L) s.heap H locs) (hp : post M) (hc : cells ≤ mc) (hs : slots ≤ ms) (hdg : decode cc pc = .ok (.return_, 1)) :
    W p l e R s m args below meth c H locs cells slots (vx_MQ below (zQv D L ad cI post) XC args s mc ms (zA ad L)) (F0 m pc ls []) :=
  vx_ret (W.widen hc hs (z_vret hx hb hr hlk hK hX hS hp hdg))
/-- 'throw new E("..")' -/
theorem zt_throw {Qc : Array Value → State → Outcome → State → Prop} {cls text : String} {names : List String} {ik is ic sa : Nat} (hF : zB p s m meth c cc c.maxLocals "PersonSeeds") (hl : l.stackTraces = false) (hT : ∀ x ∈ c.exceptionTable.toList, False) (hK : zK D cI s) (hX : zX D L ad cI M H) (hth : zTh ad L s s.heap) (hS : va_S (zA ad L) s.heap H locs)
    (hcls : Bundle.fit cls = true) (hnames : ∀ n ∈ names, Bundle.fit n = true) (hk : Cond.classLink "PersonSeeds" ik cls ∈ lw_tbl) (hini : Cond.initialized cls ∈ lw_tbl) (hstr : vk_R "PersonSeeds" is text sa s)
    (hat : (vx_atS "PersonSeeds" ic cls names).all (fun w => decide (w ∈ lw_tbl) && (goodWord w || isCast w) && vx_ot w) = true) (hsize : ls.size = c.maxLocals)
    (d0 : decode cc pc = .ok (.new ik, 3)) (d3 : decode cc (pc + 3) = .ok (.dup, 1)) (d4 : decode cc (pc + 4) = .ok (.ldc is, 2)) (d6 : decode cc (pc + 6) = .ok (.invokespecial ic, 3)) (d9 : decode cc (pc + 9) = .ok (.athrow, 1))
    (hRf : names.length + 3 < R.frames) (hRl : (rest.map fun v => v.category).sum + (13 * (names.length + 1) + 43) ≤ R.locals) (hRc : cells + 1 ≤ R.cells) (hRs : slots + 6 ≤ R.slots) (hbad : bad cls) (hc : cells + 1 ≤ mc) (hs : slots + 6 ≤ ms) :
    W p l e R s m args below meth c H locs cells slots (vx_MQ below Qc (zXc D L ad cI M bad) args s mc ms (zA ad L)) (F0 m pc ls rest) := by
  have hall := List.all_eq_true.mp hat
  refine vx_throwS hF.1 hF.2.1 hl hF.2.2.2.1 hcls hnames (hK.w hk rfl) (hK.w hini rfl) hstr (fun w hw => ?_) (fun w hw => ?_) hth.1 hth.2.1 hS hsize d0 d3 d4 d6 d9 (fun x hx => (hT x hx).elim) hRf hRl hRc hRs hF.2.2.2.2 (fun t hal hz hk9 => ?_) hS.2.2 hc hs
  · have h1 := hall w hw
    simp only [Bool.and_eq_true, decide_eq_true_eq] at h1
    exact hK.wc h1.1.1 h1.1.2
  · rcases List.mem_cons.mp hw with rfl | hw
    · rfl
    · rcases List.mem_cons.mp hw with rfl | hw
      · rfl
      · have h1 := hall w hw
        simp only [Bool.and_eq_true, decide_eq_true_eq] at h1
        exact h1.2
  · refine ⟨(), trivial, ⟨hbad, hX.kept (fun q hq _ => hk9 q hq)⟩, Nat.le_trans hS.1 hz, fun q h1 h2 => ?_⟩
    rw [hk9 q (Nat.lt_of_lt_of_le h1 hS.1)]
    exact hS.2.1 q h1 h2
variable {y : MethodName} {bytes : ByteArray} {maxL nL n index mc' ms' : Nat} {ret : Option FieldType} {rm : Room} {own C : String} {As st0 : List Value} {bad' : String → Prop} {Qc : Array Value → State → Outcome → State → Prop}
theorem zt_pass {E : String} {ce : Cell} {q9 : Addr} {t : State} {H1 : Heap} {locs1 : List Loc} (hF : zB p s m meth c cc nL own) (hT : ∀ x ∈ c.exceptionTable.toList, False) (ht : t.heap = H1) (hB : bad' E ∧ zX D L ad cI M t.heap) (hS1 : va_S (zA ad L) s.heap H1 locs1) (hce : H1[q9]? = some ce) (hcv : ce.vm = .none) (hcl : s.vm.findClass E = some ce.cls) (hb' : ∀ E, bad' E → bad E) {k n : Nat} (hcm : k ≤ mc) (hsm : n ≤ ms) :
    vx_W p l e R s m args below meth c H1 locs1 k n (vx_MQ below Qc (zXc D L ad cI M bad) args s mc ms (zA ad L)) (F0 m pc ls rest) q9 :=
  vx_out (fun x hx => (hT x hx).elim) hF.2.2.2.2 hce hcv hcl (fun t2 h2 _ => ⟨(), trivial, ⟨hb' E hB.1, by rw [h2, ← ht]; exact hB.2⟩, hS1.F h2⟩) hS1.2.2 hcm hsm
/-- a static call that may throw, and lets it through -/
theorem zt_callS {post : zM → Prop} (hF : zB p s m meth c cc nL own) (hT : ∀ x ∈ c.exceptionTable.toList, False) (hM : zTv l y (.code y bytes maxL ret) rm D L ad cI M As post bad' mc' ms') (cw : CallB R s args own index y bytes maxL ret [.code y bytes maxL ret] rm mc' ms' n ∧ (Cond.static y).before args s = true) (hK : zK D cI s) (hX : zX D L ad cI M H) (hth : zTh ad L s s.heap) (hS : va_S (zA ad L) s.heap H locs)
    (hn : As.length = n) (hls : ls.size = nL) (hst : st0 = As.reverse ++ rest) (hro : (rest.map fun v => v.category).sum ≤ 8) (hdg : decode cc pc = .ok (.invokestatic index, 3)) (hf : cells + mc' ≤ R.cells ∧ slots + ms' ≤ R.slots) (hb' : ∀ E, bad' E → bad E) (hcm : cells + mc' ≤ mc) (hsm : slots + ms' ≤ ms)
    (kk : ∀ (u : zM) (H1 : Heap) (locs1 : List Loc), post u → zX D L ad cI u H1 → va_S (zA ad L) s.heap H1 locs1 → W p l e R s m args below meth c H1 locs1 (cells + mc') (slots + ms') (vx_MQ below Qc (zXc D L ad cI M bad) args s mc ms (zA ad L)) (F0 m (pc + 3) ls rest)) :
    W p l e R s m args below meth c H locs cells slots (vx_MQ below Qc (zXc D L ad cI M bad) args s mc ms (zA ad L)) (F0 m pc ls st0) := by
  refine vx_callv (vx_runS (As := As) (rest := rest) (Ts := []) ⟨hF.1, hF.2.1, hF.2.2.1, hF.2.2.2.1, fun _ h => nomatch h⟩ hM cw ⟨zt_blind, fun U hU hW => ⟨rfl, by rw [hU]; exact hX, zK.warm hW hK, by rw [hU]; exact (hth.kept hS.2.1).warm hW⟩⟩ rfl hn hls hst (lv_room hro) hdg hf) hS (fun q _ h => h) (fun q h => h) (fun q _ h => h) (fun E ce q9 u t H1 locs1 ht hvm _ hB _ _ hS1 hce hcv hcl => ?_) (fun u t H1 locs1 ht hvm hp hB _ _ hS1 => ?_)
  · exact zt_pass hF hT ht hB hS1 hce hcv hcl hb' hcm hsm
  · exact kk u H1 locs1 hp (by rw [← ht]; exact hB) hS1
/-- a call of an instance method that may throw, and lets it through -/
theorem zt_callV {post : zM → Prop} (hF : zB p s m meth c cc nL own) (hT : ∀ x ∈ c.exceptionTable.toList, False) {o : Nat} (hM : zTv l y (.code y bytes maxL ret) rm D L ad cI M (.ref (ad o) :: As) post bad' mc' ms') (cw : CallW R s args own C index y bytes maxL ret [.code y bytes maxL ret] rm mc' ms' n) (hK : zK D cI s) (hX : zX D L ad cI M H) (hth : zTh ad L s s.heap) (hS : va_S (zA ad L) s.heap H locs) {ci N : Nat} {T : u_T} {fs : List zF} (ho : L[o]? = some (.inl (ci, fs))) (hc : zCl[ci]? = some (C, T, N))
    (hn : As.length = n) (hls : ls.size = nL) (hst : st0 = As.reverse ++ .ref (ad o) :: rest) (hro : (rest.map fun v => v.category).sum ≤ 8) (hdg : decode cc pc = .ok (.invokevirtual index, 3)) (hf : cells + mc' ≤ R.cells ∧ slots + ms' ≤ R.slots) (hb' : ∀ E, bad' E → bad E) (hcm : cells + mc' ≤ mc) (hsm : slots + ms' ≤ ms)
    (kk : ∀ (u : zM) (H1 : Heap) (locs1 : List Loc), post u → zX D L ad cI u H1 → va_S (zA ad L) s.heap H1 locs1 → W p l e R s m args below meth c H1 locs1 (cells + mc') (slots + ms') (vx_MQ below Qc (zXc D L ad cI M bad) args s mc ms (zA ad L)) (F0 m (pc + 3) ls rest)) :
    W p l e R s m args below meth c H locs cells slots (vx_MQ below Qc (zXc D L ad cI M bad) args s mc ms (zA ad L)) (F0 m pc ls st0) := by
  refine vx_callv (vx_runV (As := As) (rest := rest) (Ts := []) ⟨hF.1, hF.2.1, hF.2.2.1, hF.2.2.2.1, fun _ h => nomatch h⟩ hM cw ⟨zt_blind, va_recv hK.1 hX.1 hc (zW_is ho), fun U hU hW => ⟨rfl, by rw [hU]; exact hX, zK.warm hW hK, by rw [hU]; exact (hth.kept hS.2.1).warm hW⟩⟩ rfl hn hls hst (lv_room hro) hdg hf) hS (fun q _ h => h) (fun q h => h) (fun q _ h => h) (fun E ce q9 u t H1 locs1 ht hvm _ hB _ _ hS1 hce hcv hcl => ?_) (fun u t H1 locs1 ht hvm hp hB _ _ hS1 => ?_)
  · exact zt_pass hF hT ht hB hS1 hce hcv hcl hb' hcm hsm
  · exact kk u H1 locs1 hp (by rw [← ht]; exact hB) hS1
end ZTHROW
end
section
set_option maxHeartbeats 4000000 in
set_option maxRecDepth 100000 in
theorem k_chkB (l : Launch) (hlt : l.stackTraces = false) (D : va_G) (ad : Nat → Nat) (cI : Nat → ClassId) (sd : Int64) (M : zM) (a b c1 : Int) (h1 : -2147483648 ≤ a ∧ a ≤ 2147483647) (h2 : -2147483648 ≤ b ∧ b ≤ 2147483647) (h3 : -2147483648 ≤ c1 ∧ c1 ≤ 2147483647) : zTv l y_PS_checkBounds (.code y_PS_checkBounds c_PS_checkBounds 3 (none)) { frames := 6, cells := 1, slots := 6, locals := 90 } D (xL sd) ad cI M [.int (zI (a)), .int (zI (b)), .int (zI (c1))] (fun u => ((b ≤ a ∧ a ≤ c1)) ∧ u = M) (fun E => (E = "java/lang/IllegalArgumentException" ∧ ¬ (b ≤ a ∧ a ≤ c1))) 1 6 := by
  refine zt_of (cc := c_PS_checkBounds) (maxL := 3) (ret := none) (own := "PersonSeeds") (by decide) rfl rfl (Nat.le_of_ble_eq_true rfl) ?_
  intro p e s m below meth c ls hF hr hT hX hK hth hl
  obtain ⟨hx, hb, hml, hown, hlk⟩ := id hF
  have hS : va_S (zA ad (xL sd)) s.heap s.heap [] := va_S.rf
  have hl : lv_has ls 3 [(0, .int (zI (a))), (1, .int (zI (b))), (2, .int (zI (c1)))] := hl
  refine lv_iload_n hx hb d_PS_checkBounds_0 rfl (lv_at hl 0 rfl) ?_
  refine lv_iload_n hx hb d_PS_checkBounds_1 rfl (lv_at hl 1 rfl) ?_
  refine z_icmp_lt (a := a) (b := b) (tgt := 10) hx hb d_PS_checkBounds_2 (by decide) (by omega) (fun hb_1 => ?_) (fun hb_2 => ?_)
  · skip
    obtain ⟨-, -, a1, a2, a3, g1, g2, g3⟩ := id hth
    exact zt_throw (bad := (fun E => (E = "java/lang/IllegalArgumentException" ∧ ¬ (b ≤ a ∧ a ≤ c1)))) (by rw [hml]; exact hF) hlt hT hK hX hth hS (by decide +kernel) (by decide +kernel) tw_185 tw_11 g1 zt_IAE (hl.1.trans hml.symm) d_PS_checkBounds_10 d_PS_checkBounds_13 d_PS_checkBounds_14 d_PS_checkBounds_16 d_PS_checkBounds_19 (Nat.le_of_ble_eq_true rfl) (Nat.le_of_ble_eq_true rfl) (Nat.le_of_ble_eq_true rfl) (Nat.le_of_ble_eq_true rfl) ⟨rfl, by omega⟩ (Nat.le_of_ble_eq_true rfl) (Nat.le_of_ble_eq_true rfl)
  · skip
    refine lv_iload_n hx hb d_PS_checkBounds_5 rfl (lv_at hl 0 rfl) ?_
    refine lv_iload_n hx hb d_PS_checkBounds_6 rfl (lv_at hl 2 rfl) ?_
    refine z_icmp_le (a := a) (b := c1) (tgt := 20) hx hb d_PS_checkBounds_7 (by decide) (by omega) (fun hb_3 => ?_) (fun hb_4 => ?_)
    · skip
      exact zt_vret (post := (fun u => ((b ≤ a ∧ a ≤ c1)) ∧ u = M)) hx hb hr hlk hK hX hS ⟨by omega, rfl⟩ (Nat.le_of_ble_eq_true rfl) (Nat.le_of_ble_eq_true rfl) d_PS_checkBounds_20
    · skip
      obtain ⟨-, -, a1, a2, a3, g1, g2, g3⟩ := id hth
      exact zt_throw (bad := (fun E => (E = "java/lang/IllegalArgumentException" ∧ ¬ (b ≤ a ∧ a ≤ c1)))) (by rw [hml]; exact hF) hlt hT hK hX hth hS (by decide +kernel) (by decide +kernel) tw_185 tw_11 g1 zt_IAE (hl.1.trans hml.symm) d_PS_checkBounds_10 d_PS_checkBounds_13 d_PS_checkBounds_14 d_PS_checkBounds_16 d_PS_checkBounds_19 (Nat.le_of_ble_eq_true rfl) (Nat.le_of_ble_eq_true rfl) (Nat.le_of_ble_eq_true rfl) (Nat.le_of_ble_eq_true rfl) ⟨rfl, by omega⟩ (Nat.le_of_ble_eq_true rfl) (Nat.le_of_ble_eq_true rfl)
set_option maxHeartbeats 4000000 in
set_option maxRecDepth 100000 in
theorem k_chkD (l : Launch) (hlt : l.stackTraces = false) (D : va_G) (ad : Nat → Nat) (cI : Nat → ClassId) (sd : Int64) (M : zM) (a b : Int) (h1 : -2147483648 ≤ a ∧ a ≤ 2147483647) (h2 : -2147483648 ≤ b ∧ b ≤ 2147483647) : zTv l y_PS_checkDifferent (.code y_PS_checkDifferent c_PS_checkDifferent 2 (none)) { frames := 6, cells := 1, slots := 6, locals := 90 } D (xL sd) ad cI M [.int (zI (a)), .int (zI (b))] (fun u => ((¬ a = b)) ∧ u = M) (fun E => (E = "java/lang/IllegalArgumentException" ∧ ¬ (¬ a = b))) 1 6 := by
  refine zt_of (cc := c_PS_checkDifferent) (maxL := 2) (ret := none) (own := "PersonSeeds") (by decide) rfl rfl (Nat.le_of_ble_eq_true rfl) ?_
  intro p e s m below meth c ls hF hr hT hX hK hth hl
  obtain ⟨hx, hb, hml, hown, hlk⟩ := id hF
  have hS : va_S (zA ad (xL sd)) s.heap s.heap [] := va_S.rf
  have hl : lv_has ls 2 [(0, .int (zI (a))), (1, .int (zI (b)))] := hl
  refine lv_iload_n hx hb d_PS_checkDifferent_0 rfl (lv_at hl 0 rfl) ?_
  refine lv_iload_n hx hb d_PS_checkDifferent_1 rfl (lv_at hl 1 rfl) ?_
  refine z_icmp_ne (a := a) (b := b) (tgt := 15) hx hb d_PS_checkDifferent_2 (by decide) (by omega) (fun hb_1 => ?_) (fun hb_2 => ?_)
  · skip
    exact zt_vret (post := (fun u => ((¬ a = b)) ∧ u = M)) hx hb hr hlk hK hX hS ⟨by omega, rfl⟩ (Nat.le_of_ble_eq_true rfl) (Nat.le_of_ble_eq_true rfl) d_PS_checkDifferent_15
  · skip
    obtain ⟨-, -, a1, a2, a3, g1, g2, g3⟩ := id hth
    exact zt_throw (bad := (fun E => (E = "java/lang/IllegalArgumentException" ∧ ¬ (¬ a = b)))) (by rw [hml]; exact hF) hlt hT hK hX hth hS (by decide +kernel) (by decide +kernel) tw_185 tw_11 g2 zt_IAE (hl.1.trans hml.symm) d_PS_checkDifferent_5 d_PS_checkDifferent_8 d_PS_checkDifferent_9 d_PS_checkDifferent_11 d_PS_checkDifferent_14 (Nat.le_of_ble_eq_true rfl) (Nat.le_of_ble_eq_true rfl) (Nat.le_of_ble_eq_true rfl) (Nat.le_of_ble_eq_true rfl) ⟨rfl, by omega⟩ (Nat.le_of_ble_eq_true rfl) (Nat.le_of_ble_eq_true rfl)
set_option maxHeartbeats 4000000 in
set_option maxRecDepth 100000 in
theorem k_chkS (l : Launch) (hlt : l.stackTraces = false) (D : va_G) (ad : Nat → Nat) (cI : Nat → ClassId) (sd : Int64) (M : zM) (a : Int) (h1 : -2147483648 ≤ a ∧ a ≤ 2147483647) : zTv l y_PS_checkState (.code y_PS_checkState c_PS_checkState 1 (none)) { frames := 6, cells := 1, slots := 6, locals := 90 } D (xL sd) ad cI M [.int (zI (a))] (fun u => ((¬ a = 0)) ∧ u = M) (fun E => (E = "java/lang/IllegalStateException" ∧ ¬ (¬ a = 0))) 1 6 := by
  refine zt_of (cc := c_PS_checkState) (maxL := 1) (ret := none) (own := "PersonSeeds") (by decide) rfl rfl (Nat.le_of_ble_eq_true rfl) ?_
  intro p e s m below meth c ls hF hr hT hX hK hth hl
  obtain ⟨hx, hb, hml, hown, hlk⟩ := id hF
  have hS : va_S (zA ad (xL sd)) s.heap s.heap [] := va_S.rf
  have hl : lv_has ls 1 [(0, .int (zI (a)))] := hl
  refine lv_iload_n hx hb d_PS_checkState_0 rfl (lv_at hl 0 rfl) ?_
  refine z_if_ne (a := a) (tgt := 14) hx hb d_PS_checkState_1 (by decide) (by omega) (fun hb_1 => ?_) (fun hb_2 => ?_)
  · skip
    exact zt_vret (post := (fun u => ((¬ a = 0)) ∧ u = M)) hx hb hr hlk hK hX hS ⟨by omega, rfl⟩ (Nat.le_of_ble_eq_true rfl) (Nat.le_of_ble_eq_true rfl) d_PS_checkState_14
  · skip
    obtain ⟨-, -, a1, a2, a3, g1, g2, g3⟩ := id hth
    exact zt_throw (bad := (fun E => (E = "java/lang/IllegalStateException" ∧ ¬ (¬ a = 0)))) (by rw [hml]; exact hF) hlt hT hK hX hth hS (by decide +kernel) (by decide +kernel) tw_255 tw_12 g3 zt_ISE (hl.1.trans hml.symm) d_PS_checkState_4 d_PS_checkState_7 d_PS_checkState_8 d_PS_checkState_10 d_PS_checkState_13 (Nat.le_of_ble_eq_true rfl) (Nat.le_of_ble_eq_true rfl) (Nat.le_of_ble_eq_true rfl) (Nat.le_of_ble_eq_true rfl) ⟨rfl, by omega⟩ (Nat.le_of_ble_eq_true rfl) (Nat.le_of_ble_eq_true rfl)
set_option maxHeartbeats 4000000 in
set_option maxRecDepth 100000 in
theorem k_chkR (l : Launch) (hlt : l.stackTraces = false) (D : va_G) (ad : Nat → Nat) (cI : Nat → ClassId) (sd : Int64) (M : zM) (a : Int) (h1 : -2147483648 ≤ a ∧ a ≤ 2147483647) (h2 : 0 ≤ M 1 0 ∧ M 1 0 ≤ 12) : zTv l y_PS_checkRoom (.code y_PS_checkRoom c_PS_checkRoom 2 (none)) { frames := 7, cells := 1, slots := 6, locals := 112 } D (xL sd) ad cI M [.ref (ad 0), .int (zI (a))] (fun u => ((0 ≤ a ∧ a < M 1 0)) ∧ u = M) (fun E => (E = "java/lang/IllegalArgumentException" ∧ ¬ (0 ≤ a ∧ a < M 1 0))) 1 6 := by
  refine zt_of (cc := c_PS_checkRoom) (maxL := 2) (ret := none) (own := "PersonSeeds") (by decide) rfl rfl (Nat.le_of_ble_eq_true rfl) ?_
  intro p e s m below meth c ls hF hr hT hX hK hth hl
  obtain ⟨hx, hb, hml, hown, hlk⟩ := id hF
  have hS : va_S (zA ad (xL sd)) s.heap s.heap [] := va_S.rf
  have hl : lv_has ls 2 [(0, .ref (ad 0)), (1, .int (zI (a)))] := hl
  refine lv_iload_n hx hb d_PS_checkRoom_0 rfl (lv_at hl 1 rfl) ?_
  refine z_const hx hb d_PS_checkRoom_1 ?_
  refine lv_aload_n hx hb d_PS_checkRoom_2 rfl (lv_at hl 0 rfl) ?_
  refine z_getr hx hb iw_PS hown hK hX 0 rfl rfl 0 (by decide) tw_144 (fun _ h => h) 1 rfl d_PS_checkRoom_3 ?_
  refine z_getiN (i := 0) (v := M 1 0) hx hb iw_Ro hown hK hX 1 rfl rfl 0 (by decide) tw_29 (fun _ h => h) rfl rfl rfl d_PS_checkRoom_6 (fun rg_1 => ?_)
  refine z_const hx hb d_PS_checkRoom_9 ?_
  refine z_isub hx hb d_PS_checkRoom_10 ?_
  refine zt_callS hF hT (k_chkB l hlt D ad cI sd M a 0 ((M 1 0) - 1) (by omega) (by omega) (by omega)) (hK.cS 3 tw_184 tw_182 tw_1 tw_183 (by decide +kernel) rfl rfl ⟨Nat.le_of_ble_eq_true rfl, Nat.le_of_ble_eq_true rfl⟩) hK hX hth hS rfl hl.1 rfl (Nat.le_of_ble_eq_true rfl) d_PS_checkRoom_11 ⟨Nat.le_of_ble_eq_true rfl, Nat.le_of_ble_eq_true rfl⟩ (fun E h9 => ⟨h9.1, fun q9 => h9.2 (by omega)⟩) (Nat.le_of_ble_eq_true rfl) (Nat.le_of_ble_eq_true rfl) (fun u H locs hp hX hS => ?_)
  obtain ⟨hc_2, hu⟩ := hp
  rw [hu] at hX
  exact zt_vret (post := (fun u => ((0 ≤ a ∧ a < M 1 0)) ∧ u = M)) hx hb hr hlk hK hX hS ⟨by omega, rfl⟩ (Nat.le_of_ble_eq_true rfl) (Nat.le_of_ble_eq_true rfl) d_PS_checkRoom_14
set_option maxHeartbeats 4000000 in
set_option maxRecDepth 100000 in
theorem k_chkP (l : Launch) (hlt : l.stackTraces = false) (D : va_G) (ad : Nat → Nat) (cI : Nat → ClassId) (sd : Int64) (M : zM) (a : Int) (h1 : -2147483648 ≤ a ∧ a ≤ 2147483647) (h2 : 0 ≤ M 4 1 ∧ M 4 1 ≤ 60) : zTv l y_PS_checkPerson (.code y_PS_checkPerson c_PS_checkPerson 2 (none)) { frames := 7, cells := 1, slots := 6, locals := 112 } D (xL sd) ad cI M [.ref (ad 0), .int (zI (a))] (fun u => ((0 ≤ a ∧ a < M 4 1)) ∧ u = M) (fun E => (E = "java/lang/IllegalArgumentException" ∧ ¬ (0 ≤ a ∧ a < M 4 1))) 1 6 := by
  refine zt_of (cc := c_PS_checkPerson) (maxL := 2) (ret := none) (own := "PersonSeeds") (by decide) rfl rfl (Nat.le_of_ble_eq_true rfl) ?_
  intro p e s m below meth c ls hF hr hT hX hK hth hl
  obtain ⟨hx, hb, hml, hown, hlk⟩ := id hF
  have hS : va_S (zA ad (xL sd)) s.heap s.heap [] := va_S.rf
  have hl : lv_has ls 2 [(0, .ref (ad 0)), (1, .int (zI (a)))] := hl
  refine lv_iload_n hx hb d_PS_checkPerson_0 rfl (lv_at hl 1 rfl) ?_
  refine z_const hx hb d_PS_checkPerson_1 ?_
  refine lv_aload_n hx hb d_PS_checkPerson_2 rfl (lv_at hl 0 rfl) ?_
  refine z_getr hx hb iw_PS hown hK hX 0 rfl rfl 3 (by decide) tw_147 (fun _ h => h) 4 rfl d_PS_checkPerson_3 ?_
  refine z_getiN (i := 1) (v := M 4 1) hx hb iw_Pe hown hK hX 4 rfl rfl 1 (by decide) tw_110 (fun _ h => h) rfl rfl rfl d_PS_checkPerson_6 (fun rg_1 => ?_)
  refine z_const hx hb d_PS_checkPerson_9 ?_
  refine z_isub hx hb d_PS_checkPerson_10 ?_
  refine zt_callS hF hT (k_chkB l hlt D ad cI sd M a 0 ((M 4 1) - 1) (by omega) (by omega) (by omega)) (hK.cS 3 tw_184 tw_182 tw_1 tw_183 (by decide +kernel) rfl rfl ⟨Nat.le_of_ble_eq_true rfl, Nat.le_of_ble_eq_true rfl⟩) hK hX hth hS rfl hl.1 rfl (Nat.le_of_ble_eq_true rfl) d_PS_checkPerson_11 ⟨Nat.le_of_ble_eq_true rfl, Nat.le_of_ble_eq_true rfl⟩ (fun E h9 => ⟨h9.1, fun q9 => h9.2 (by omega)⟩) (Nat.le_of_ble_eq_true rfl) (Nat.le_of_ble_eq_true rfl) (fun u H locs hp hX hS => ?_)
  obtain ⟨hc_2, hu⟩ := hp
  rw [hu] at hX
  exact zt_vret (post := (fun u => ((0 ≤ a ∧ a < M 4 1)) ∧ u = M)) hx hb hr hlk hK hX hS ⟨by omega, rfl⟩ (Nat.le_of_ble_eq_true rfl) (Nat.le_of_ble_eq_true rfl) d_PS_checkPerson_14
set_option maxHeartbeats 4000000 in
set_option maxRecDepth 100000 in
theorem k_chkO (l : Launch) (hlt : l.stackTraces = false) (D : va_G) (ad : Nat → Nat) (cI : Nat → ClassId) (sd : Int64) (M : zM) (a : Int) (h1 : -2147483648 ≤ a ∧ a ≤ 2147483647) (h2 : 0 ≤ M 0 4 ∧ M 0 4 ≤ 2000) : zTv l y_PS_checkOver (.code y_PS_checkOver c_PS_checkOver 2 (none)) { frames := 7, cells := 1, slots := 6, locals := 112 } D (xL sd) ad cI M [.ref (ad 0), .int (zI (a))] (fun u => ((0 ≤ a ∧ a < M 0 4)) ∧ u = M) (fun E => (E = "java/lang/IllegalArgumentException" ∧ ¬ (0 ≤ a ∧ a < M 0 4))) 1 6 := by
  refine zt_of (cc := c_PS_checkOver) (maxL := 2) (ret := none) (own := "PersonSeeds") (by decide) rfl rfl (Nat.le_of_ble_eq_true rfl) ?_
  intro p e s m below meth c ls hF hr hT hX hK hth hl
  obtain ⟨hx, hb, hml, hown, hlk⟩ := id hF
  have hS : va_S (zA ad (xL sd)) s.heap s.heap [] := va_S.rf
  have hl : lv_has ls 2 [(0, .ref (ad 0)), (1, .int (zI (a)))] := hl
  refine lv_iload_n hx hb d_PS_checkOver_0 rfl (lv_at hl 1 rfl) ?_
  refine z_const hx hb d_PS_checkOver_1 ?_
  refine lv_aload_n hx hb d_PS_checkOver_2 rfl (lv_at hl 0 rfl) ?_
  refine z_geti (i := 4) (v := M 0 4) hx hb iw_PS hown hK hX 0 rfl rfl 4 (by decide) tw_148 (fun _ h => h) rfl rfl rfl d_PS_checkOver_3 (fun rg_1 => ?_)
  refine z_const hx hb d_PS_checkOver_6 ?_
  refine z_isub hx hb d_PS_checkOver_7 ?_
  refine zt_callS hF hT (k_chkB l hlt D ad cI sd M a 0 ((M 0 4) - 1) (by omega) (by omega) (by omega)) (hK.cS 3 tw_184 tw_182 tw_1 tw_183 (by decide +kernel) rfl rfl ⟨Nat.le_of_ble_eq_true rfl, Nat.le_of_ble_eq_true rfl⟩) hK hX hth hS rfl hl.1 rfl (Nat.le_of_ble_eq_true rfl) d_PS_checkOver_8 ⟨Nat.le_of_ble_eq_true rfl, Nat.le_of_ble_eq_true rfl⟩ (fun E h9 => ⟨h9.1, fun q9 => h9.2 (by omega)⟩) (Nat.le_of_ble_eq_true rfl) (Nat.le_of_ble_eq_true rfl) (fun u H locs hp hX hS => ?_)
  obtain ⟨hc_2, hu⟩ := hp
  rw [hu] at hX
  exact zt_vret (post := (fun u => ((0 ≤ a ∧ a < M 0 4)) ∧ u = M)) hx hb hr hlk hK hX hS ⟨by omega, rfl⟩ (Nat.le_of_ble_eq_true rfl) (Nat.le_of_ble_eq_true rfl) d_PS_checkOver_11
end
section
/-! more of the model: what is told -/
def xTell (M : zM) (p what : Int) : Int := if what = 0 then M 19 p else if what = 1 then M 20 p else if what = 2 then M 21 p else if what = 3 then M 22 p else if what = 4 then M 23 p else M 24 p
def xIn (M : zM) (r what : Int) : Int := if what = 0 then M 6 r else if what = 1 then M 7 r else M 8 r
theorem xRoomsAdd_c {M : zM} {v : Int} {c : Nat} (h5 : c ≠ 5) (h1 : c ≠ 1) : xRoomsAdd M v c = M c := by
  unfold xRoomsAdd
  rw [zU_k h1, zU_k h5]
theorem xRoomsAdd_1 {M : zM} {v : Int} : xRoomsAdd M v 1 0 = M 1 0 + 1 := by
  unfold xRoomsAdd
  rw [zU_s]
theorem xShiftN_c {t n : Int} {c : Nat} (h : c ≠ 19) : ∀ (k : Nat) (M : zM), (xShiftN t n k M).2 c = M c
  | 0, M => rfl
  | k + 1, M => by
    unfold xShiftN
    split
    · rw [xShiftN_c h k]; exact zU_k h
    · rfl
theorem xPersAdd_c {M : zM} {t n : Int} {c : Nat} (h9 : c ≠ 19) (h4 : c ≠ 4) : xPersAdd M t n c = M c := by
  unfold xPersAdd
  show zU _ 4 1 _ c = M c
  rw [zU_k h4, xPutN_c h9, xShiftN_c h9]
theorem xPersAdd_41 {M : zM} {t n : Int} : xPersAdd M t n 4 1 = M 4 1 + n := by
  unfold xPersAdd
  exact zU_s
section ZBM
variable {p : Program} {l : Launch} {e : Env} {R : Room} {s : State} {m : MethodId} {args : Array Value} {below : List Frame} {meth : Method} {c : Code} {H : Heap} {locs : List Loc} {cells slots : Nat} {Q : State → Prop}
variable {pc : Nat} {ls : Array Slot} {rest : List Value}
theorem z_bm {z : Int} (k : W p l e R s m args below meth c H locs cells slots Q (F0 m pc ls (.int (zI (bm z)) :: rest))) : W p l e R s m args below meth c H locs cells slots Q (F0 m pc ls (.int (zI z) :: rest)) := by
  rw [bm_zI] at k
  exact k
end ZBM
end
section
set_option maxHeartbeats 4000000 in
set_option maxRecDepth 100000 in
theorem k_draw (l : Launch) (hlt : l.stackTraces = false) (D : va_G) (ad : Nat → Nat) (cI : Nat → ClassId) (sd : Int64) (M : zM) (p1 k1 m1 : Int) (g0 : -2147483648 ≤ p1 ∧ p1 ≤ 2147483647) (g1 : -2147483648 ≤ k1 ∧ k1 ≤ 2147483647) (g2 : -2147483648 ≤ m1 ∧ m1 ≤ 2147483647) (hO : xOK M) : zTi l y_PS_draw (.code y_PS_draw c_PS_draw 4 (some .int)) { frames := 7, cells := 3, slots := 18, locals := 112 } D (xL sd) ad cI M [.ref (ad 0), .int (zI (p1)), .int (zI (k1)), .int (zI (m1))] (fun z u => (((0 ≤ p1 ∧ p1 ≤ 59) ∧ (0 ≤ k1 ∧ k1 ≤ 7) ∧ (1 ≤ m1 ∧ m1 ≤ 1000000))) ∧ z = (xDraw sd p1 k1 m1) ∧ u = M) (fun E => (E = "java/lang/IllegalArgumentException" ∧ ¬ ((0 ≤ p1 ∧ p1 ≤ 59) ∧ (0 ≤ k1 ∧ k1 ≤ 7) ∧ (1 ≤ m1 ∧ m1 ≤ 1000000)))) 3 18 := by
  refine zt_of (cc := c_PS_draw) (maxL := 4) (ret := some .int) (own := "PersonSeeds") (by decide) rfl rfl (Nat.le_of_ble_eq_true rfl) ?_
  intro p e s m below meth c ls hF hr hT hX hK hth hl
  obtain ⟨hx, hb, hml, hown, hlk⟩ := id hF
  have hS : va_S (zA ad (xL sd)) s.heap s.heap [] := va_S.rf
  have hl : lv_has ls 4 [(0, .ref (ad 0)), (1, .int (zI (p1))), (2, .int (zI (k1))), (3, .int (zI (m1)))] := hl
  have o1 := hO.1
  have o2 := hO.2.1
  have o3 := hO.2.2.1
  have o4 := hO.2.2.2.1
  refine lv_iload_n hx hb d_PS_draw_0 rfl (lv_at hl 1 rfl) ?_
  refine z_const hx hb d_PS_draw_1 ?_
  refine z_bipush hx hb d_PS_draw_2 (by decide) ?_
  refine zt_callS hF hT (k_chkB l hlt D ad cI sd M p1 0 59 (by omega) (by omega) (by omega)) (hK.cS 3 tw_184 tw_182 tw_1 tw_183 (by decide +kernel) rfl rfl ⟨Nat.le_of_ble_eq_true rfl, Nat.le_of_ble_eq_true rfl⟩) hK hX hth hS rfl hl.1 rfl (Nat.le_of_ble_eq_true rfl) d_PS_draw_4 ⟨Nat.le_of_ble_eq_true rfl, Nat.le_of_ble_eq_true rfl⟩ (fun E h9 => ⟨h9.1, fun q9 => h9.2 (by omega)⟩) (Nat.le_of_ble_eq_true rfl) (Nat.le_of_ble_eq_true rfl) (fun u H locs hp hX hS => ?_)
  obtain ⟨hc_1, hu⟩ := hp
  rw [hu] at hX
  refine lv_iload_n hx hb d_PS_draw_7 rfl (lv_at hl 2 rfl) ?_
  refine z_const hx hb d_PS_draw_8 ?_
  refine z_bipush hx hb d_PS_draw_9 (by decide) ?_
  refine zt_callS hF hT (k_chkB l hlt D ad cI sd M k1 0 7 (by omega) (by omega) (by omega)) (hK.cS 3 tw_184 tw_182 tw_1 tw_183 (by decide +kernel) rfl rfl ⟨Nat.le_of_ble_eq_true rfl, Nat.le_of_ble_eq_true rfl⟩) hK hX hth hS rfl hl.1 rfl (Nat.le_of_ble_eq_true rfl) d_PS_draw_11 ⟨Nat.le_of_ble_eq_true rfl, Nat.le_of_ble_eq_true rfl⟩ (fun E h9 => ⟨h9.1, fun q9 => h9.2 (by omega)⟩) (Nat.le_of_ble_eq_true rfl) (Nat.le_of_ble_eq_true rfl) (fun u H locs hp hX hS => ?_)
  obtain ⟨hc_2, hu⟩ := hp
  rw [hu] at hX
  refine lv_iload_n hx hb d_PS_draw_14 rfl (lv_at hl 3 rfl) ?_
  refine z_const hx hb d_PS_draw_15 ?_
  refine z_ldc (n := 1000000) hx hb hown hK tw_334 d_PS_draw_16 ?_
  refine zt_callS hF hT (k_chkB l hlt D ad cI sd M m1 1 1000000 (by omega) (by omega) (by omega)) (hK.cS 3 tw_184 tw_182 tw_1 tw_183 (by decide +kernel) rfl rfl ⟨Nat.le_of_ble_eq_true rfl, Nat.le_of_ble_eq_true rfl⟩) hK hX hth hS rfl hl.1 rfl (Nat.le_of_ble_eq_true rfl) d_PS_draw_18 ⟨Nat.le_of_ble_eq_true rfl, Nat.le_of_ble_eq_true rfl⟩ (fun E h9 => ⟨h9.1, fun q9 => h9.2 (by omega)⟩) (Nat.le_of_ble_eq_true rfl) (Nat.le_of_ble_eq_true rfl) (fun u H locs hp hX hS => ?_)
  obtain ⟨hc_3, hu⟩ := hp
  rw [hu] at hX
  refine lv_aload_n hx hb d_PS_draw_21 rfl (lv_at hl 0 rfl) ?_
  refine z_getr hx hb iw_PS hown hK hX 0 rfl rfl 3 (by decide) tw_147 (fun _ h => h) 4 rfl d_PS_draw_22 ?_
  refine lv_iload_n hx hb d_PS_draw_25 rfl (lv_at hl 1 rfl) ?_
  refine lv_iload_n hx hb d_PS_draw_26 rfl (lv_at hl 2 rfl) ?_
  refine lv_iload_n hx hb d_PS_draw_27 rfl (lv_at hl 3 rfl) ?_
  refine z_callVNi hF (k_Pe_drawn l D ad cI sd M p1 k1 m1 (by omega)) (hK.cN 3 tw_282 tw_335 tw_6 tw_281 ts_3 (by decide +kernel) rfl rfl ⟨Nat.le_of_ble_eq_true rfl, Nat.le_of_ble_eq_true rfl⟩) hK hX hS rfl rfl rfl hl.1 rfl (Nat.le_of_ble_eq_true rfl) d_PS_draw_28 ⟨Nat.le_of_ble_eq_true rfl, Nat.le_of_ble_eq_true rfl⟩ (fun z u H locs rg_4 hp hX hS => ?_)
  obtain ⟨hz, hu⟩ := hp
  rw [hu] at hX
  have hz : z = (xDraw sd p1 k1 m1) := hz
  subst hz
  exact zt_iret (z := xDraw sd p1 k1 m1) (post := (fun z u => (((0 ≤ p1 ∧ p1 ≤ 59) ∧ (0 ≤ k1 ∧ k1 ≤ 7) ∧ (1 ≤ m1 ∧ m1 ≤ 1000000))) ∧ z = (xDraw sd p1 k1 m1) ∧ u = M)) hx hb hr hlk hK hX hS (by omega) ⟨by omega, rfl, rfl⟩ (Nat.le_of_ble_eq_true rfl) (Nat.le_of_ble_eq_true rfl) d_PS_draw_31
set_option maxHeartbeats 4000000 in
set_option maxRecDepth 100000 in
theorem k_at (l : Launch) (hlt : l.stackTraces = false) (D : va_G) (ad : Nat → Nat) (cI : Nat → ClassId) (sd : Int64) (M : zM) (p1 : Int) (g0 : -2147483648 ≤ p1 ∧ p1 ≤ 2147483647) (hO : xOK M) : zTi l y_PS_at (.code y_PS_at c_PS_at 2 (some .int)) { frames := 8, cells := 1, slots := 6, locals := 133 } D (xL sd) ad cI M [.ref (ad 0), .int (zI (p1))] (fun z u => ((0 ≤ p1 ∧ p1 < M 4 1)) ∧ z = (xNow M p1) ∧ u = M) (fun E => (E = "java/lang/IllegalArgumentException" ∧ ¬ (0 ≤ p1 ∧ p1 < M 4 1))) 1 6 := by
  refine zt_of (cc := c_PS_at) (maxL := 2) (ret := some .int) (own := "PersonSeeds") (by decide) rfl rfl (Nat.le_of_ble_eq_true rfl) ?_
  intro p e s m below meth c ls hF hr hT hX hK hth hl
  obtain ⟨hx, hb, hml, hown, hlk⟩ := id hF
  have hS : va_S (zA ad (xL sd)) s.heap s.heap [] := va_S.rf
  have hl : lv_has ls 2 [(0, .ref (ad 0)), (1, .int (zI (p1)))] := hl
  have o1 := hO.1
  have o2 := hO.2.1
  have o3 := hO.2.2.1
  have o4 := hO.2.2.2.1
  refine lv_aload_n hx hb d_PS_at_0 rfl (lv_at hl 0 rfl) ?_
  refine lv_iload_n hx hb d_PS_at_1 rfl (lv_at hl 1 rfl) ?_
  refine zt_callV hF hT (k_chkP l hlt D ad cI sd M p1 (by omega) (by omega)) (hK.cV 1 tw_418 tw_415 tw_1 tw_417 ts_24 (by decide +kernel) rfl rfl ⟨Nat.le_of_ble_eq_true rfl, Nat.le_of_ble_eq_true rfl⟩) hK hX hth hS rfl rfl rfl hl.1 rfl (Nat.le_of_ble_eq_true rfl) d_PS_at_2 ⟨Nat.le_of_ble_eq_true rfl, Nat.le_of_ble_eq_true rfl⟩ (fun E h9 => ⟨h9.1, fun q9 => h9.2 (by omega)⟩) (Nat.le_of_ble_eq_true rfl) (Nat.le_of_ble_eq_true rfl) (fun u H locs hp hX hS => ?_)
  obtain ⟨hc_1, hu⟩ := hp
  rw [hu] at hX
  refine lv_aload_n hx hb d_PS_at_5 rfl (lv_at hl 0 rfl) ?_
  refine z_getr hx hb iw_PS hown hK hX 0 rfl rfl 2 (by decide) tw_146 (fun _ h => h) 3 rfl d_PS_at_6 ?_
  refine lv_iload_n hx hb d_PS_at_9 rfl (lv_at hl 1 rfl) ?_
  refine z_callVNi hF (k_Tr_placeNow l D ad cI sd M p1 (by omega) (hO.2.2.2.2.2.2.1 _ (by omega) (by omega))) (hK.cN 1 tw_358 tw_355 tw_5 tw_357 ts_12 (by decide +kernel) rfl rfl ⟨Nat.le_of_ble_eq_true rfl, Nat.le_of_ble_eq_true rfl⟩) hK hX hS rfl rfl rfl hl.1 rfl (Nat.le_of_ble_eq_true rfl) d_PS_at_10 ⟨Nat.le_of_ble_eq_true rfl, Nat.le_of_ble_eq_true rfl⟩ (fun z u H locs rg_2 hp hX hS => ?_)
  obtain ⟨hz, hu⟩ := hp
  rw [hu] at hX
  have hz : z = (xNow M p1) := hz
  subst hz
  exact zt_iret (z := xNow M p1) (post := (fun z u => ((0 ≤ p1 ∧ p1 < M 4 1)) ∧ z = (xNow M p1) ∧ u = M)) hx hb hr hlk hK hX hS (by omega) ⟨by omega, rfl, rfl⟩ (Nat.le_of_ble_eq_true rfl) (Nat.le_of_ble_eq_true rfl) d_PS_at_13
set_option maxHeartbeats 4000000 in
set_option maxRecDepth 100000 in
theorem k_was (l : Launch) (hlt : l.stackTraces = false) (D : va_G) (ad : Nat → Nat) (cI : Nat → ClassId) (sd : Int64) (M : zM) (p1 t : Int) (g0 : -2147483648 ≤ p1 ∧ p1 ≤ 2147483647) (g1 : -2147483648 ≤ t ∧ t ≤ 2147483647) (hO : xOK M) : zTi l y_PS_was (.code y_PS_was c_PS_was 3 (some .int)) { frames := 8, cells := 2, slots := 12, locals := 133 } D (xL sd) ad cI M [.ref (ad 0), .int (zI (p1)), .int (zI (t))] (fun z u => (((0 ≤ p1 ∧ p1 < M 4 1) ∧ (0 ≤ t ∧ t < M 0 4))) ∧ z = (xBeh M p1 t) ∧ u = M) (fun E => (E = "java/lang/IllegalArgumentException" ∧ ¬ ((0 ≤ p1 ∧ p1 < M 4 1) ∧ (0 ≤ t ∧ t < M 0 4)))) 2 12 := by
  refine zt_of (cc := c_PS_was) (maxL := 3) (ret := some .int) (own := "PersonSeeds") (by decide) rfl rfl (Nat.le_of_ble_eq_true rfl) ?_
  intro p e s m below meth c ls hF hr hT hX hK hth hl
  obtain ⟨hx, hb, hml, hown, hlk⟩ := id hF
  have hS : va_S (zA ad (xL sd)) s.heap s.heap [] := va_S.rf
  have hl : lv_has ls 3 [(0, .ref (ad 0)), (1, .int (zI (p1))), (2, .int (zI (t)))] := hl
  have o1 := hO.1
  have o2 := hO.2.1
  have o3 := hO.2.2.1
  have o4 := hO.2.2.2.1
  refine lv_aload_n hx hb d_PS_was_0 rfl (lv_at hl 0 rfl) ?_
  refine lv_iload_n hx hb d_PS_was_1 rfl (lv_at hl 1 rfl) ?_
  refine zt_callV hF hT (k_chkP l hlt D ad cI sd M p1 (by omega) (by omega)) (hK.cV 1 tw_418 tw_415 tw_1 tw_417 ts_24 (by decide +kernel) rfl rfl ⟨Nat.le_of_ble_eq_true rfl, Nat.le_of_ble_eq_true rfl⟩) hK hX hth hS rfl rfl rfl hl.1 rfl (Nat.le_of_ble_eq_true rfl) d_PS_was_2 ⟨Nat.le_of_ble_eq_true rfl, Nat.le_of_ble_eq_true rfl⟩ (fun E h9 => ⟨h9.1, fun q9 => h9.2 (by omega)⟩) (Nat.le_of_ble_eq_true rfl) (Nat.le_of_ble_eq_true rfl) (fun u H locs hp hX hS => ?_)
  obtain ⟨hc_1, hu⟩ := hp
  rw [hu] at hX
  refine lv_aload_n hx hb d_PS_was_5 rfl (lv_at hl 0 rfl) ?_
  refine lv_iload_n hx hb d_PS_was_6 rfl (lv_at hl 2 rfl) ?_
  refine zt_callV hF hT (k_chkO l hlt D ad cI sd M t (by omega) (by omega)) (hK.cV 1 tw_436 tw_433 tw_1 tw_435 ts_25 (by decide +kernel) rfl rfl ⟨Nat.le_of_ble_eq_true rfl, Nat.le_of_ble_eq_true rfl⟩) hK hX hth hS rfl rfl rfl hl.1 rfl (Nat.le_of_ble_eq_true rfl) d_PS_was_7 ⟨Nat.le_of_ble_eq_true rfl, Nat.le_of_ble_eq_true rfl⟩ (fun E h9 => ⟨h9.1, fun q9 => h9.2 (by omega)⟩) (Nat.le_of_ble_eq_true rfl) (Nat.le_of_ble_eq_true rfl) (fun u H locs hp hX hS => ?_)
  obtain ⟨hc_2, hu⟩ := hp
  rw [hu] at hX
  refine lv_aload_n hx hb d_PS_was_10 rfl (lv_at hl 0 rfl) ?_
  refine z_getr hx hb iw_PS hown hK hX 0 rfl rfl 2 (by decide) tw_146 (fun _ h => h) 3 rfl d_PS_was_11 ?_
  refine lv_iload_n hx hb d_PS_was_14 rfl (lv_at hl 1 rfl) ?_
  refine lv_iload_n hx hb d_PS_was_15 rfl (lv_at hl 2 rfl) ?_
  refine z_callVNi hF (k_Tr_placeBehind l D ad cI sd M p1 t (by omega) (hO.2.2.2.2.2.2.1 _ (by omega) (by omega)) (by omega)) (hK.cN 2 tw_440 tw_437 tw_5 tw_439 ts_26 (by decide +kernel) rfl rfl ⟨Nat.le_of_ble_eq_true rfl, Nat.le_of_ble_eq_true rfl⟩) hK hX hS rfl rfl rfl hl.1 rfl (Nat.le_of_ble_eq_true rfl) d_PS_was_16 ⟨Nat.le_of_ble_eq_true rfl, Nat.le_of_ble_eq_true rfl⟩ (fun z u H locs rg_3 hp hX hS => ?_)
  obtain ⟨hz, hu⟩ := hp
  rw [hu] at hX
  have hz : z = (xBeh M p1 t) := hz
  subst hz
  exact zt_iret (z := xBeh M p1 t) (post := (fun z u => (((0 ≤ p1 ∧ p1 < M 4 1) ∧ (0 ≤ t ∧ t < M 0 4))) ∧ z = (xBeh M p1 t) ∧ u = M)) hx hb hr hlk hK hX hS (by omega) ⟨by omega, rfl, rfl⟩ (Nat.le_of_ble_eq_true rfl) (Nat.le_of_ble_eq_true rfl) d_PS_was_19
set_option maxHeartbeats 4000000 in
set_option maxRecDepth 100000 in
theorem k_waited (l : Launch) (hlt : l.stackTraces = false) (D : va_G) (ad : Nat → Nat) (cI : Nat → ClassId) (sd : Int64) (M : zM) (p1 : Int) (g0 : -2147483648 ≤ p1 ∧ p1 ≤ 2147483647) (hO : xOK M) : zTi l y_PS_waited (.code y_PS_waited c_PS_waited 2 (some .int)) { frames := 8, cells := 1, slots := 6, locals := 133 } D (xL sd) ad cI M [.ref (ad 0), .int (zI (p1))] (fun z u => ((0 ≤ p1 ∧ p1 < M 4 1)) ∧ z = (M 25 p1) ∧ u = M) (fun E => (E = "java/lang/IllegalArgumentException" ∧ ¬ (0 ≤ p1 ∧ p1 < M 4 1))) 1 6 := by
  refine zt_of (cc := c_PS_waited) (maxL := 2) (ret := some .int) (own := "PersonSeeds") (by decide) rfl rfl (Nat.le_of_ble_eq_true rfl) ?_
  intro p e s m below meth c ls hF hr hT hX hK hth hl
  obtain ⟨hx, hb, hml, hown, hlk⟩ := id hF
  have hS : va_S (zA ad (xL sd)) s.heap s.heap [] := va_S.rf
  have hl : lv_has ls 2 [(0, .ref (ad 0)), (1, .int (zI (p1)))] := hl
  have o1 := hO.1
  have o2 := hO.2.1
  have o3 := hO.2.2.1
  have o4 := hO.2.2.2.1
  refine lv_aload_n hx hb d_PS_waited_0 rfl (lv_at hl 0 rfl) ?_
  refine lv_iload_n hx hb d_PS_waited_1 rfl (lv_at hl 1 rfl) ?_
  refine zt_callV hF hT (k_chkP l hlt D ad cI sd M p1 (by omega) (by omega)) (hK.cV 1 tw_418 tw_415 tw_1 tw_417 ts_24 (by decide +kernel) rfl rfl ⟨Nat.le_of_ble_eq_true rfl, Nat.le_of_ble_eq_true rfl⟩) hK hX hth hS rfl rfl rfl hl.1 rfl (Nat.le_of_ble_eq_true rfl) d_PS_waited_2 ⟨Nat.le_of_ble_eq_true rfl, Nat.le_of_ble_eq_true rfl⟩ (fun E h9 => ⟨h9.1, fun q9 => h9.2 (by omega)⟩) (Nat.le_of_ble_eq_true rfl) (Nat.le_of_ble_eq_true rfl) (fun u H locs hp hX hS => ?_)
  obtain ⟨hc_1, hu⟩ := hp
  rw [hu] at hX
  refine lv_aload_n hx hb d_PS_waited_5 rfl (lv_at hl 0 rfl) ?_
  refine z_getr hx hb iw_PS hown hK hX 0 rfl rfl 3 (by decide) tw_147 (fun _ h => h) 4 rfl d_PS_waited_6 ?_
  refine z_getrN hx hb iw_Pe hown hK hX 4 rfl rfl 8 (by decide) tw_124 (fun _ h => h) 25 rfl d_PS_waited_9 ?_
  refine lv_iload_n hx hb d_PS_waited_12 rfl (lv_at hl 1 rfl) ?_
  refine z_iald (i := p1) (v := M 25 p1) hx hb hK hX 25 rfl (by omega) (by decide) rfl d_PS_waited_13 (fun rg_2 => ?_)
  exact zt_iret (z := M 25 p1) (post := (fun z u => ((0 ≤ p1 ∧ p1 < M 4 1)) ∧ z = (M 25 p1) ∧ u = M)) hx hb hr hlk hK hX hS (by omega) ⟨by omega, rfl, rfl⟩ (Nat.le_of_ble_eq_true rfl) (Nat.le_of_ble_eq_true rfl) d_PS_waited_14
set_option maxHeartbeats 4000000 in
set_option maxRecDepth 100000 in
theorem k_through (l : Launch) (hlt : l.stackTraces = false) (D : va_G) (ad : Nat → Nat) (cI : Nat → ClassId) (sd : Int64) (M : zM) (d on : Int) (g0 : -2147483648 ≤ d ∧ d ≤ 2147483647) (g1 : -2147483648 ≤ on ∧ on ≤ 2147483647) (hO : xOK M) : zTi l y_PS_through (.code y_PS_through c_PS_through 3 (some .int)) { frames := 7, cells := 1, slots := 6, locals := 112 } D (xL sd) ad cI M [.ref (ad 0), .int (zI (d)), .int (zI (on))] (fun z u => ((0 ≤ d ∧ d < M 2 0)) ∧ z = (if on = 0 then M 13 d else M 12 d) ∧ u = M) (fun E => (E = "java/lang/IllegalArgumentException" ∧ ¬ (0 ≤ d ∧ d < M 2 0))) 1 6 := by
  refine zt_of (cc := c_PS_through) (maxL := 3) (ret := some .int) (own := "PersonSeeds") (by decide) rfl rfl (Nat.le_of_ble_eq_true rfl) ?_
  intro p e s m below meth c ls hF hr hT hX hK hth hl
  obtain ⟨hx, hb, hml, hown, hlk⟩ := id hF
  have hS : va_S (zA ad (xL sd)) s.heap s.heap [] := va_S.rf
  have hl : lv_has ls 3 [(0, .ref (ad 0)), (1, .int (zI (d))), (2, .int (zI (on)))] := hl
  have o1 := hO.1
  have o2 := hO.2.1
  have o3 := hO.2.2.1
  have o4 := hO.2.2.2.1
  refine lv_iload_n hx hb d_PS_through_0 rfl (lv_at hl 1 rfl) ?_
  refine z_const hx hb d_PS_through_1 ?_
  refine lv_aload_n hx hb d_PS_through_2 rfl (lv_at hl 0 rfl) ?_
  refine z_getr hx hb iw_PS hown hK hX 0 rfl rfl 1 (by decide) tw_145 (fun _ h => h) 2 rfl d_PS_through_3 ?_
  refine z_getiN (i := 0) (v := M 2 0) hx hb iw_Do hown hK hX 2 rfl rfl 0 (by decide) tw_59 (fun _ h => h) rfl rfl rfl d_PS_through_6 (fun rg_1 => ?_)
  refine z_const hx hb d_PS_through_9 ?_
  refine z_isub hx hb d_PS_through_10 ?_
  refine zt_callS hF hT (k_chkB l hlt D ad cI sd M d 0 ((M 2 0) - 1) (by omega) (by omega) (by omega)) (hK.cS 3 tw_184 tw_182 tw_1 tw_183 (by decide +kernel) rfl rfl ⟨Nat.le_of_ble_eq_true rfl, Nat.le_of_ble_eq_true rfl⟩) hK hX hth hS rfl hl.1 rfl (Nat.le_of_ble_eq_true rfl) d_PS_through_11 ⟨Nat.le_of_ble_eq_true rfl, Nat.le_of_ble_eq_true rfl⟩ (fun E h9 => ⟨h9.1, fun q9 => h9.2 (by omega)⟩) (Nat.le_of_ble_eq_true rfl) (Nat.le_of_ble_eq_true rfl) (fun u H locs hp hX hS => ?_)
  obtain ⟨hc_2, hu⟩ := hp
  rw [hu] at hX
  refine lv_iload_n hx hb d_PS_through_14 rfl (lv_at hl 2 rfl) ?_
  refine z_if_eq (a := on) (tgt := 30) hx hb d_PS_through_15 (by decide) (by omega) (fun hb_3 => ?_) (fun hb_4 => ?_)
  · skip
    refine lv_aload_n hx hb d_PS_through_30 rfl (lv_at hl 0 rfl) ?_
    refine z_getr hx hb iw_PS hown hK hX 0 rfl rfl 1 (by decide) tw_145 (fun _ h => h) 2 rfl d_PS_through_31 ?_
    refine z_getrN hx hb iw_Do hown hK hX 2 rfl rfl 5 (by decide) tw_66 (fun _ h => h) 13 rfl d_PS_through_34 ?_
    refine lv_iload_n hx hb d_PS_through_37 rfl (lv_at hl 1 rfl) ?_
    refine z_iald (i := d) (v := M 13 d) hx hb hK hX 13 rfl (by omega) (by decide) rfl d_PS_through_38 (fun rg_5 => ?_)
    exact zt_iret (z := M 13 d) (post := (fun z u => ((0 ≤ d ∧ d < M 2 0)) ∧ z = (if on = 0 then M 13 d else M 12 d) ∧ u = M)) hx hb hr hlk hK hX hS (by omega) ⟨by omega, by first | rfl | omega | (split <;> omega) | (repeat' split) <;> first | rfl | omega | simp_all, rfl⟩ (Nat.le_of_ble_eq_true rfl) (Nat.le_of_ble_eq_true rfl) d_PS_through_39
  · skip
    refine lv_aload_n hx hb d_PS_through_18 rfl (lv_at hl 0 rfl) ?_
    refine z_getr hx hb iw_PS hown hK hX 0 rfl rfl 1 (by decide) tw_145 (fun _ h => h) 2 rfl d_PS_through_19 ?_
    refine z_getrN hx hb iw_Do hown hK hX 2 rfl rfl 4 (by decide) tw_64 (fun _ h => h) 12 rfl d_PS_through_22 ?_
    refine lv_iload_n hx hb d_PS_through_25 rfl (lv_at hl 1 rfl) ?_
    refine z_iald (i := d) (v := M 12 d) hx hb hK hX 12 rfl (by omega) (by decide) rfl d_PS_through_26 (fun rg_6 => ?_)
    refine lv_goto (tgt := 39) hx hb d_PS_through_27 (by decide) ?_
    exact zt_iret (z := M 12 d) (post := (fun z u => ((0 ≤ d ∧ d < M 2 0)) ∧ z = (if on = 0 then M 13 d else M 12 d) ∧ u = M)) hx hb hr hlk hK hX hS (by omega) ⟨by omega, by first | rfl | omega | (split <;> omega) | (repeat' split) <;> first | rfl | omega | simp_all, rfl⟩ (Nat.le_of_ble_eq_true rfl) (Nat.le_of_ble_eq_true rfl) d_PS_through_39
set_option maxHeartbeats 4000000 in
set_option maxRecDepth 100000 in
theorem k_distance (l : Launch) (hlt : l.stackTraces = false) (D : va_G) (ad : Nat → Nat) (cI : Nat → ClassId) (sd : Int64) (M : zM) (a b : Int) (g0 : -2147483648 ≤ a ∧ a ≤ 2147483647) (g1 : -2147483648 ≤ b ∧ b ≤ 2147483647) (hO : xOK M) : zTi l y_PS_distance (.code y_PS_distance c_PS_distance 4 (some .int)) { frames := 8, cells := 2, slots := 12, locals := 133 } D (xL sd) ad cI M [.ref (ad 0), .int (zI (a)), .int (zI (b))] (fun z u => (((0 ≤ a ∧ a < M 1 0) ∧ (0 ≤ b ∧ b < M 1 0))) ∧ z = (if M 15 (a * 12 + b) < 1000 then M 15 (a * 12 + b) else -1) ∧ u = M) (fun E => (E = "java/lang/IllegalArgumentException" ∧ ¬ ((0 ≤ a ∧ a < M 1 0) ∧ (0 ≤ b ∧ b < M 1 0)))) 2 12 := by
  refine zt_of (cc := c_PS_distance) (maxL := 4) (ret := some .int) (own := "PersonSeeds") (by decide) rfl rfl (Nat.le_of_ble_eq_true rfl) ?_
  intro p e s m below meth c ls hF hr hT hX hK hth hl
  obtain ⟨hx, hb, hml, hown, hlk⟩ := id hF
  have hS : va_S (zA ad (xL sd)) s.heap s.heap [] := va_S.rf
  have hl : lv_has ls 4 [(0, .ref (ad 0)), (1, .int (zI (a))), (2, .int (zI (b)))] := hl
  have o1 := hO.1
  have o2 := hO.2.1
  have o3 := hO.2.2.1
  have o4 := hO.2.2.2.1
  refine lv_aload_n hx hb d_PS_distance_0 rfl (lv_at hl 0 rfl) ?_
  refine lv_iload_n hx hb d_PS_distance_1 rfl (lv_at hl 1 rfl) ?_
  refine zt_callV hF hT (k_chkR l hlt D ad cI sd M a (by omega) (by omega)) (hK.cV 1 tw_296 tw_293 tw_1 tw_295 ts_4 (by decide +kernel) rfl rfl ⟨Nat.le_of_ble_eq_true rfl, Nat.le_of_ble_eq_true rfl⟩) hK hX hth hS rfl rfl rfl hl.1 rfl (Nat.le_of_ble_eq_true rfl) d_PS_distance_2 ⟨Nat.le_of_ble_eq_true rfl, Nat.le_of_ble_eq_true rfl⟩ (fun E h9 => ⟨h9.1, fun q9 => h9.2 (by omega)⟩) (Nat.le_of_ble_eq_true rfl) (Nat.le_of_ble_eq_true rfl) (fun u H locs hp hX hS => ?_)
  obtain ⟨hc_1, hu⟩ := hp
  rw [hu] at hX
  refine lv_aload_n hx hb d_PS_distance_5 rfl (lv_at hl 0 rfl) ?_
  refine lv_iload_n hx hb d_PS_distance_6 rfl (lv_at hl 2 rfl) ?_
  refine zt_callV hF hT (k_chkR l hlt D ad cI sd M b (by omega) (by omega)) (hK.cV 1 tw_296 tw_293 tw_1 tw_295 ts_4 (by decide +kernel) rfl rfl ⟨Nat.le_of_ble_eq_true rfl, Nat.le_of_ble_eq_true rfl⟩) hK hX hth hS rfl rfl rfl hl.1 rfl (Nat.le_of_ble_eq_true rfl) d_PS_distance_7 ⟨Nat.le_of_ble_eq_true rfl, Nat.le_of_ble_eq_true rfl⟩ (fun E h9 => ⟨h9.1, fun q9 => h9.2 (by omega)⟩) (Nat.le_of_ble_eq_true rfl) (Nat.le_of_ble_eq_true rfl) (fun u H locs hp hX hS => ?_)
  obtain ⟨hc_2, hu⟩ := hp
  rw [hu] at hX
  refine lv_aload_n hx hb d_PS_distance_10 rfl (lv_at hl 0 rfl) ?_
  refine z_getr hx hb iw_PS hown hK hX 0 rfl rfl 1 (by decide) tw_145 (fun _ h => h) 2 rfl d_PS_distance_11 ?_
  refine lv_iload_n hx hb d_PS_distance_14 rfl (lv_at hl 1 rfl) ?_
  refine lv_iload_n hx hb d_PS_distance_15 rfl (lv_at hl 2 rfl) ?_
  refine z_callVNi hF (k_Do_steps l D ad cI sd M a b (by omega) (by omega)) (hK.cN 2 tw_312 tw_476 tw_3 tw_311 ts_7 (by decide +kernel) rfl rfl ⟨Nat.le_of_ble_eq_true rfl, Nat.le_of_ble_eq_true rfl⟩) hK hX hS rfl rfl rfl hl.1 rfl (Nat.le_of_ble_eq_true rfl) d_PS_distance_16 ⟨Nat.le_of_ble_eq_true rfl, Nat.le_of_ble_eq_true rfl⟩ (fun z u H locs rg_3 hp hX hS => ?_)
  obtain ⟨hz, hu⟩ := hp
  rw [hu] at hX
  have hz : z = (M 15 (a * 12 + b)) := hz
  subst hz
  refine lv_istore_n (lv' := [(3, .int (zI ((M 15 (a * 12 + b))))), (0, .ref (ad 0)), (1, .int (zI (a))), (2, .int (zI (b)))]) hx hb d_PS_distance_19 rfl hl (by decide) rfl (fun ls hl => ?_)
  refine lv_iload_n hx hb d_PS_distance_20 rfl (lv_at hl 0 rfl) ?_
  refine z_sipush hx hb d_PS_distance_21 (by decide) ?_
  refine z_icmp_ge (a := (M 15 (a * 12 + b))) (b := 1000) (tgt := 31) hx hb d_PS_distance_24 (by decide) (by omega) (fun hb_4 => ?_) (fun hb_5 => ?_)
  · skip
    refine z_const hx hb d_PS_distance_31 ?_
    exact zt_iret (z := -1) (post := (fun z u => (((0 ≤ a ∧ a < M 1 0) ∧ (0 ≤ b ∧ b < M 1 0))) ∧ z = (if M 15 (a * 12 + b) < 1000 then M 15 (a * 12 + b) else -1) ∧ u = M)) hx hb hr hlk hK hX hS (by omega) ⟨by omega, by first | rfl | omega | (split <;> omega) | (repeat' split) <;> first | rfl | omega | simp_all, rfl⟩ (Nat.le_of_ble_eq_true rfl) (Nat.le_of_ble_eq_true rfl) d_PS_distance_32
  · skip
    refine lv_iload_n hx hb d_PS_distance_27 rfl (lv_at hl 0 rfl) ?_
    refine lv_goto (tgt := 32) hx hb d_PS_distance_28 (by decide) ?_
    exact zt_iret (z := (M 15 (a * 12 + b))) (post := (fun z u => (((0 ≤ a ∧ a < M 1 0) ∧ (0 ≤ b ∧ b < M 1 0))) ∧ z = (if M 15 (a * 12 + b) < 1000 then M 15 (a * 12 + b) else -1) ∧ u = M)) hx hb hr hlk hK hX hS (by omega) ⟨by omega, by first | rfl | omega | (split <;> omega) | (repeat' split) <;> first | rfl | omega | simp_all, rfl⟩ (Nat.le_of_ble_eq_true rfl) (Nat.le_of_ble_eq_true rfl) d_PS_distance_32
set_option maxHeartbeats 4000000 in
set_option maxRecDepth 100000 in
theorem k_met (l : Launch) (hlt : l.stackTraces = false) (D : va_G) (ad : Nat → Nat) (cI : Nat → ClassId) (sd : Int64) (M : zM) (p1 o : Int) (g0 : -2147483648 ≤ p1 ∧ p1 ≤ 2147483647) (g1 : -2147483648 ≤ o ∧ o ≤ 2147483647) (hO : xOK M) : zTi l y_PS_met (.code y_PS_met c_PS_met 5 (some .int)) { frames := 8, cells := 3, slots := 18, locals := 133 } D (xL sd) ad cI M [.ref (ad 0), .int (zI (p1)), .int (zI (o))] (fun z u => (((0 ≤ p1 ∧ p1 < M 4 1) ∧ (0 ≤ o ∧ o < M 4 1) ∧ ¬ p1 = o)) ∧ z = (xMet M p1 o) ∧ u = M) (fun E => (E = "java/lang/IllegalArgumentException" ∧ ¬ ((0 ≤ p1 ∧ p1 < M 4 1) ∧ (0 ≤ o ∧ o < M 4 1) ∧ ¬ p1 = o))) 3 18 := by
  refine zt_of (cc := c_PS_met) (maxL := 5) (ret := some .int) (own := "PersonSeeds") (by decide) rfl rfl (Nat.le_of_ble_eq_true rfl) ?_
  intro p e s m below meth c ls hF hr hT hX hK hth hl
  obtain ⟨hx, hb, hml, hown, hlk⟩ := id hF
  have hS : va_S (zA ad (xL sd)) s.heap s.heap [] := va_S.rf
  have hl : lv_has ls 5 [(0, .ref (ad 0)), (1, .int (zI (p1))), (2, .int (zI (o)))] := hl
  have o1 := hO.1
  have o2 := hO.2.1
  have o3 := hO.2.2.1
  have o4 := hO.2.2.2.1
  refine lv_aload_n hx hb d_PS_met_0 rfl (lv_at hl 0 rfl) ?_
  refine lv_iload_n hx hb d_PS_met_1 rfl (lv_at hl 1 rfl) ?_
  refine zt_callV hF hT (k_chkP l hlt D ad cI sd M p1 (by omega) (by omega)) (hK.cV 1 tw_418 tw_415 tw_1 tw_417 ts_24 (by decide +kernel) rfl rfl ⟨Nat.le_of_ble_eq_true rfl, Nat.le_of_ble_eq_true rfl⟩) hK hX hth hS rfl rfl rfl hl.1 rfl (Nat.le_of_ble_eq_true rfl) d_PS_met_2 ⟨Nat.le_of_ble_eq_true rfl, Nat.le_of_ble_eq_true rfl⟩ (fun E h9 => ⟨h9.1, fun q9 => h9.2 (by omega)⟩) (Nat.le_of_ble_eq_true rfl) (Nat.le_of_ble_eq_true rfl) (fun u H locs hp hX hS => ?_)
  obtain ⟨hc_1, hu⟩ := hp
  rw [hu] at hX
  refine lv_aload_n hx hb d_PS_met_5 rfl (lv_at hl 0 rfl) ?_
  refine lv_iload_n hx hb d_PS_met_6 rfl (lv_at hl 2 rfl) ?_
  refine zt_callV hF hT (k_chkP l hlt D ad cI sd M o (by omega) (by omega)) (hK.cV 1 tw_418 tw_415 tw_1 tw_417 ts_24 (by decide +kernel) rfl rfl ⟨Nat.le_of_ble_eq_true rfl, Nat.le_of_ble_eq_true rfl⟩) hK hX hth hS rfl rfl rfl hl.1 rfl (Nat.le_of_ble_eq_true rfl) d_PS_met_7 ⟨Nat.le_of_ble_eq_true rfl, Nat.le_of_ble_eq_true rfl⟩ (fun E h9 => ⟨h9.1, fun q9 => h9.2 (by omega)⟩) (Nat.le_of_ble_eq_true rfl) (Nat.le_of_ble_eq_true rfl) (fun u H locs hp hX hS => ?_)
  obtain ⟨hc_2, hu⟩ := hp
  rw [hu] at hX
  refine lv_iload_n hx hb d_PS_met_10 rfl (lv_at hl 1 rfl) ?_
  refine lv_iload_n hx hb d_PS_met_11 rfl (lv_at hl 2 rfl) ?_
  refine zt_callS hF hT (k_chkD l hlt D ad cI sd M p1 o (by omega) (by omega)) (hK.cS 2 tw_299 tw_297 tw_1 tw_298 (by decide +kernel) rfl rfl ⟨Nat.le_of_ble_eq_true rfl, Nat.le_of_ble_eq_true rfl⟩) hK hX hth hS rfl hl.1 rfl (Nat.le_of_ble_eq_true rfl) d_PS_met_12 ⟨Nat.le_of_ble_eq_true rfl, Nat.le_of_ble_eq_true rfl⟩ (fun E h9 => ⟨h9.1, fun q9 => h9.2 (by omega)⟩) (Nat.le_of_ble_eq_true rfl) (Nat.le_of_ble_eq_true rfl) (fun u H locs hp hX hS => ?_)
  obtain ⟨hc_3, hu⟩ := hp
  rw [hu] at hX
  refine lv_aload_n hx hb d_PS_met_15 rfl (lv_at hl 0 rfl) ?_
  refine z_getr hx hb iw_PS hown hK hX 0 rfl rfl 2 (by decide) tw_146 (fun _ h => h) 3 rfl d_PS_met_16 ?_
  refine lv_iload_n hx hb d_PS_met_19 rfl (lv_at hl 1 rfl) ?_
  refine lv_iload_n hx hb d_PS_met_20 rfl (lv_at hl 2 rfl) ?_
  refine z_callVNi hF (k_Tr_firstJoining l D ad cI sd M p1 o (by omega) (by omega) (hO.2.2.2.2.2.2.1 _ (by omega) (by omega)) (hO.2.2.2.2.2.2.1 _ (by omega) (by omega))) (hK.cN 2 tw_487 tw_484 tw_5 tw_486 ts_27 (by decide +kernel) rfl rfl ⟨Nat.le_of_ble_eq_true rfl, Nat.le_of_ble_eq_true rfl⟩) hK hX hS rfl rfl rfl hl.1 rfl (Nat.le_of_ble_eq_true rfl) d_PS_met_21 ⟨Nat.le_of_ble_eq_true rfl, Nat.le_of_ble_eq_true rfl⟩ (fun z u H locs rg_4 hp hX hS => ?_)
  obtain ⟨hz, hu⟩ := hp
  rw [hu] at hX
  have hz : z = (xJoin M p1 o) := hz
  subst hz
  refine lv_istore_n (lv' := [(3, .int (zI (xJoin M p1 o))), (0, .ref (ad 0)), (1, .int (zI (p1))), (2, .int (zI (o)))]) hx hb d_PS_met_24 rfl hl (by decide) rfl (fun ls hl => ?_)
  refine lv_aload_n hx hb d_PS_met_25 rfl (lv_at hl 1 rfl) ?_
  refine z_getr hx hb iw_PS hown hK hX 0 rfl rfl 2 (by decide) tw_146 (fun _ h => h) 3 rfl d_PS_met_26 ?_
  refine lv_iload_n hx hb d_PS_met_29 rfl (lv_at hl 3 rfl) ?_
  refine lv_iload_n hx hb d_PS_met_30 rfl (lv_at hl 2 rfl) ?_
  refine z_callVNi hF (k_Tr_firstJoining l D ad cI sd M o p1 (by omega) (by omega) (hO.2.2.2.2.2.2.1 _ (by omega) (by omega)) (hO.2.2.2.2.2.2.1 _ (by omega) (by omega))) (hK.cN 2 tw_487 tw_484 tw_5 tw_486 ts_27 (by decide +kernel) rfl rfl ⟨Nat.le_of_ble_eq_true rfl, Nat.le_of_ble_eq_true rfl⟩) hK hX hS rfl rfl rfl hl.1 rfl (Nat.le_of_ble_eq_true rfl) d_PS_met_31 ⟨Nat.le_of_ble_eq_true rfl, Nat.le_of_ble_eq_true rfl⟩ (fun z u H locs rg_5 hp hX hS => ?_)
  obtain ⟨hz, hu⟩ := hp
  rw [hu] at hX
  have hz : z = (xJoin M o p1) := hz
  subst hz
  refine lv_istore (lv' := [(4, .int (zI (xJoin M o p1))), (3, .int (zI (xJoin M p1 o))), (0, .ref (ad 0)), (1, .int (zI (p1))), (2, .int (zI (o)))]) hx hb d_PS_met_34 hl (by decide) rfl (fun ls hl => ?_)
  refine lv_iload_n hx hb d_PS_met_36 rfl (lv_at hl 1 rfl) ?_
  refine z_const hx hb d_PS_met_37 ?_
  refine z_icmp_eq (a := xJoin M p1 o) (b := -1) (tgt := 47) hx hb d_PS_met_38 (by decide) (by omega) (fun hb_6 => ?_) (fun hb_7 => ?_)
  · skip
    refine lv_iload_n hx hb d_PS_met_47 rfl (lv_at hl 1 rfl) ?_
    refine lv_iload hx hb d_PS_met_48 (lv_at hl 0 rfl) ?_
    refine z_mmax (a := xJoin M p1 o) (b := xJoin M o p1) hx hb (hml.trans hl.1.symm) hown hK tw_489 tw_405 tw_13 tw_406 (Nat.le_of_ble_eq_true rfl) (Nat.le_of_ble_eq_true rfl) (Nat.le_of_ble_eq_true rfl) (Nat.le_of_ble_eq_true rfl) (by omega) d_PS_met_50 ?_
    exact zt_iret (z := max (xJoin M p1 o) (xJoin M o p1)) (post := (fun z u => (((0 ≤ p1 ∧ p1 < M 4 1) ∧ (0 ≤ o ∧ o < M 4 1) ∧ ¬ p1 = o)) ∧ z = (xMet M p1 o) ∧ u = M)) hx hb hr hlk hK hX hS (by omega) ⟨by omega, by unfold xMet; first | rw [if_pos (by omega)] | rw [if_neg (by omega)], rfl⟩ (Nat.le_of_ble_eq_true rfl) (Nat.le_of_ble_eq_true rfl) d_PS_met_53
  · skip
    refine lv_iload hx hb d_PS_met_41 (lv_at hl 0 rfl) ?_
    refine z_const hx hb d_PS_met_43 ?_
    refine z_icmp_ne (a := xJoin M o p1) (b := -1) (tgt := 54) hx hb d_PS_met_44 (by decide) (by omega) (fun hb_8 => ?_) (fun hb_9 => ?_)
    · skip
      refine lv_iload_n hx hb d_PS_met_54 rfl (lv_at hl 1 rfl) ?_
      refine lv_iload hx hb d_PS_met_55 (lv_at hl 0 rfl) ?_
      refine z_mmin (a := xJoin M p1 o) (b := xJoin M o p1) hx hb (hml.trans hl.1.symm) hown hK tw_490 tw_314 tw_13 tw_315 (Nat.le_of_ble_eq_true rfl) (Nat.le_of_ble_eq_true rfl) (Nat.le_of_ble_eq_true rfl) (Nat.le_of_ble_eq_true rfl) (by omega) d_PS_met_57 ?_
      exact zt_iret (z := min (xJoin M p1 o) (xJoin M o p1)) (post := (fun z u => (((0 ≤ p1 ∧ p1 < M 4 1) ∧ (0 ≤ o ∧ o < M 4 1) ∧ ¬ p1 = o)) ∧ z = (xMet M p1 o) ∧ u = M)) hx hb hr hlk hK hX hS (by omega) ⟨by omega, by unfold xMet; first | rw [if_pos (by omega)] | rw [if_neg (by omega)], rfl⟩ (Nat.le_of_ble_eq_true rfl) (Nat.le_of_ble_eq_true rfl) d_PS_met_60
    · skip
      refine lv_iload_n hx hb d_PS_met_47 rfl (lv_at hl 1 rfl) ?_
      refine lv_iload hx hb d_PS_met_48 (lv_at hl 0 rfl) ?_
      refine z_mmax (a := xJoin M p1 o) (b := xJoin M o p1) hx hb (hml.trans hl.1.symm) hown hK tw_489 tw_405 tw_13 tw_406 (Nat.le_of_ble_eq_true rfl) (Nat.le_of_ble_eq_true rfl) (Nat.le_of_ble_eq_true rfl) (Nat.le_of_ble_eq_true rfl) (by omega) d_PS_met_50 ?_
      exact zt_iret (z := max (xJoin M p1 o) (xJoin M o p1)) (post := (fun z u => (((0 ≤ p1 ∧ p1 < M 4 1) ∧ (0 ≤ o ∧ o < M 4 1) ∧ ¬ p1 = o)) ∧ z = (xMet M p1 o) ∧ u = M)) hx hb hr hlk hK hX hS (by omega) ⟨by omega, by unfold xMet; first | rw [if_pos (by omega)] | rw [if_neg (by omega)], rfl⟩ (Nat.le_of_ble_eq_true rfl) (Nat.le_of_ble_eq_true rfl) d_PS_met_53
set_option maxHeartbeats 4000000 in
set_option maxRecDepth 100000 in
theorem k_person (l : Launch) (hlt : l.stackTraces = false) (D : va_G) (ad : Nat → Nat) (cI : Nat → ClassId) (sd : Int64) (M : zM) (p1 what : Int) (g0 : -2147483648 ≤ p1 ∧ p1 ≤ 2147483647) (g1 : -2147483648 ≤ what ∧ what ≤ 2147483647) (hO : xOK M) : zTi l y_PS_person (.code y_PS_person c_PS_person 3 (some .int)) { frames := 8, cells := 2, slots := 12, locals := 133 } D (xL sd) ad cI M [.ref (ad 0), .int (zI (p1)), .int (zI (what))] (fun z u => (((0 ≤ p1 ∧ p1 < M 4 1) ∧ (0 ≤ what ∧ what ≤ 5))) ∧ z = (xTell M p1 what) ∧ u = M) (fun E => (E = "java/lang/IllegalArgumentException" ∧ ¬ ((0 ≤ p1 ∧ p1 < M 4 1) ∧ (0 ≤ what ∧ what ≤ 5)))) 2 12 := by
  refine zt_of (cc := c_PS_person) (maxL := 3) (ret := some .int) (own := "PersonSeeds") (by decide) rfl rfl (Nat.le_of_ble_eq_true rfl) ?_
  intro p e s m below meth c ls hF hr hT hX hK hth hl
  obtain ⟨hx, hb, hml, hown, hlk⟩ := id hF
  have hS : va_S (zA ad (xL sd)) s.heap s.heap [] := va_S.rf
  have hl : lv_has ls 3 [(0, .ref (ad 0)), (1, .int (zI (p1))), (2, .int (zI (what)))] := hl
  have o1 := hO.1
  have o2 := hO.2.1
  have o3 := hO.2.2.1
  have o4 := hO.2.2.2.1
  refine lv_aload_n hx hb d_PS_person_0 rfl (lv_at hl 0 rfl) ?_
  refine lv_iload_n hx hb d_PS_person_1 rfl (lv_at hl 1 rfl) ?_
  refine zt_callV hF hT (k_chkP l hlt D ad cI sd M p1 (by omega) (by omega)) (hK.cV 1 tw_418 tw_415 tw_1 tw_417 ts_24 (by decide +kernel) rfl rfl ⟨Nat.le_of_ble_eq_true rfl, Nat.le_of_ble_eq_true rfl⟩) hK hX hth hS rfl rfl rfl hl.1 rfl (Nat.le_of_ble_eq_true rfl) d_PS_person_2 ⟨Nat.le_of_ble_eq_true rfl, Nat.le_of_ble_eq_true rfl⟩ (fun E h9 => ⟨h9.1, fun q9 => h9.2 (by omega)⟩) (Nat.le_of_ble_eq_true rfl) (Nat.le_of_ble_eq_true rfl) (fun u H locs hp hX hS => ?_)
  obtain ⟨hc_1, hu⟩ := hp
  rw [hu] at hX
  refine lv_iload_n hx hb d_PS_person_5 rfl (lv_at hl 2 rfl) ?_
  refine z_const hx hb d_PS_person_6 ?_
  refine z_const hx hb d_PS_person_7 ?_
  refine zt_callS hF hT (k_chkB l hlt D ad cI sd M what 0 5 (by omega) (by omega) (by omega)) (hK.cS 3 tw_184 tw_182 tw_1 tw_183 (by decide +kernel) rfl rfl ⟨Nat.le_of_ble_eq_true rfl, Nat.le_of_ble_eq_true rfl⟩) hK hX hth hS rfl hl.1 rfl (Nat.le_of_ble_eq_true rfl) d_PS_person_8 ⟨Nat.le_of_ble_eq_true rfl, Nat.le_of_ble_eq_true rfl⟩ (fun E h9 => ⟨h9.1, fun q9 => h9.2 (by omega)⟩) (Nat.le_of_ble_eq_true rfl) (Nat.le_of_ble_eq_true rfl) (fun u H locs hp hX hS => ?_)
  obtain ⟨hc_2, hu⟩ := hp
  rw [hu] at hX
  refine lv_iload_n hx hb d_PS_person_11 rfl (lv_at hl 2 rfl) ?_
  rcases (show what = 0 ∨ what = 1 ∨ what = 2 ∨ what = 3 ∨ what = 4 ∨ what = 5 by omega) with e9 | e9 | e9 | e9 | e9 | e9
  · skip
    refine lv_tableIn (tgt := 48) hx hb d_PS_person_12 (by rw [e9]; decide +kernel) (by rw [e9]; decide +kernel) (by rw [e9]; rfl) (by decide) ?_
    refine lv_aload_n hx hb d_PS_person_48 rfl (lv_at hl 0 rfl) ?_
    refine z_getr hx hb iw_PS hown hK hX 0 rfl rfl 3 (by decide) tw_147 (fun _ h => h) 4 rfl d_PS_person_49 ?_
    refine z_getrN hx hb iw_Pe hown hK hX 4 rfl rfl 2 (by decide) tw_112 (fun _ h => h) 19 rfl d_PS_person_52 ?_
    refine lv_iload_n hx hb d_PS_person_55 rfl (lv_at hl 1 rfl) ?_
    refine z_iald (i := p1) (v := M 19 p1) hx hb hK hX 19 rfl (by omega) (by decide) rfl d_PS_person_56 (fun rg_3 => ?_)
    exact zt_iret (z := M 19 p1) (post := (fun z u => (((0 ≤ p1 ∧ p1 < M 4 1) ∧ (0 ≤ what ∧ what ≤ 5))) ∧ z = (xTell M p1 what) ∧ u = M)) hx hb hr hlk hK hX hS (by omega) ⟨by omega, by rw [e9]; rfl, rfl⟩ (Nat.le_of_ble_eq_true rfl) (Nat.le_of_ble_eq_true rfl) d_PS_person_57
  · skip
    refine lv_tableIn (tgt := 58) hx hb d_PS_person_12 (by rw [e9]; decide +kernel) (by rw [e9]; decide +kernel) (by rw [e9]; rfl) (by decide) ?_
    refine lv_aload_n hx hb d_PS_person_58 rfl (lv_at hl 0 rfl) ?_
    refine z_getr hx hb iw_PS hown hK hX 0 rfl rfl 3 (by decide) tw_147 (fun _ h => h) 4 rfl d_PS_person_59 ?_
    refine z_getrN hx hb iw_Pe hown hK hX 4 rfl rfl 3 (by decide) tw_114 (fun _ h => h) 20 rfl d_PS_person_62 ?_
    refine lv_iload_n hx hb d_PS_person_65 rfl (lv_at hl 1 rfl) ?_
    refine z_iald (i := p1) (v := M 20 p1) hx hb hK hX 20 rfl (by omega) (by decide) rfl d_PS_person_66 (fun rg_4 => ?_)
    exact zt_iret (z := M 20 p1) (post := (fun z u => (((0 ≤ p1 ∧ p1 < M 4 1) ∧ (0 ≤ what ∧ what ≤ 5))) ∧ z = (xTell M p1 what) ∧ u = M)) hx hb hr hlk hK hX hS (by omega) ⟨by omega, by rw [e9]; rfl, rfl⟩ (Nat.le_of_ble_eq_true rfl) (Nat.le_of_ble_eq_true rfl) d_PS_person_67
  · skip
    refine lv_tableIn (tgt := 68) hx hb d_PS_person_12 (by rw [e9]; decide +kernel) (by rw [e9]; decide +kernel) (by rw [e9]; rfl) (by decide) ?_
    refine lv_aload_n hx hb d_PS_person_68 rfl (lv_at hl 0 rfl) ?_
    refine z_getr hx hb iw_PS hown hK hX 0 rfl rfl 3 (by decide) tw_147 (fun _ h => h) 4 rfl d_PS_person_69 ?_
    refine z_getrN hx hb iw_Pe hown hK hX 4 rfl rfl 4 (by decide) tw_116 (fun _ h => h) 21 rfl d_PS_person_72 ?_
    refine lv_iload_n hx hb d_PS_person_75 rfl (lv_at hl 1 rfl) ?_
    refine z_iald (i := p1) (v := M 21 p1) hx hb hK hX 21 rfl (by omega) (by decide) rfl d_PS_person_76 (fun rg_5 => ?_)
    exact zt_iret (z := M 21 p1) (post := (fun z u => (((0 ≤ p1 ∧ p1 < M 4 1) ∧ (0 ≤ what ∧ what ≤ 5))) ∧ z = (xTell M p1 what) ∧ u = M)) hx hb hr hlk hK hX hS (by omega) ⟨by omega, by rw [e9]; rfl, rfl⟩ (Nat.le_of_ble_eq_true rfl) (Nat.le_of_ble_eq_true rfl) d_PS_person_77
  · skip
    refine lv_tableIn (tgt := 78) hx hb d_PS_person_12 (by rw [e9]; decide +kernel) (by rw [e9]; decide +kernel) (by rw [e9]; rfl) (by decide) ?_
    refine lv_aload_n hx hb d_PS_person_78 rfl (lv_at hl 0 rfl) ?_
    refine z_getr hx hb iw_PS hown hK hX 0 rfl rfl 3 (by decide) tw_147 (fun _ h => h) 4 rfl d_PS_person_79 ?_
    refine z_getrN hx hb iw_Pe hown hK hX 4 rfl rfl 5 (by decide) tw_118 (fun _ h => h) 22 rfl d_PS_person_82 ?_
    refine lv_iload_n hx hb d_PS_person_85 rfl (lv_at hl 1 rfl) ?_
    refine z_iald (i := p1) (v := M 22 p1) hx hb hK hX 22 rfl (by omega) (by decide) rfl d_PS_person_86 (fun rg_6 => ?_)
    exact zt_iret (z := M 22 p1) (post := (fun z u => (((0 ≤ p1 ∧ p1 < M 4 1) ∧ (0 ≤ what ∧ what ≤ 5))) ∧ z = (xTell M p1 what) ∧ u = M)) hx hb hr hlk hK hX hS (by omega) ⟨by omega, by rw [e9]; rfl, rfl⟩ (Nat.le_of_ble_eq_true rfl) (Nat.le_of_ble_eq_true rfl) d_PS_person_87
  · skip
    refine lv_tableIn (tgt := 88) hx hb d_PS_person_12 (by rw [e9]; decide +kernel) (by rw [e9]; decide +kernel) (by rw [e9]; rfl) (by decide) ?_
    refine lv_aload_n hx hb d_PS_person_88 rfl (lv_at hl 0 rfl) ?_
    refine z_getr hx hb iw_PS hown hK hX 0 rfl rfl 3 (by decide) tw_147 (fun _ h => h) 4 rfl d_PS_person_89 ?_
    refine z_getrN hx hb iw_Pe hown hK hX 4 rfl rfl 6 (by decide) tw_120 (fun _ h => h) 23 rfl d_PS_person_92 ?_
    refine lv_iload_n hx hb d_PS_person_95 rfl (lv_at hl 1 rfl) ?_
    refine z_iald (i := p1) (v := M 23 p1) hx hb hK hX 23 rfl (by omega) (by decide) rfl d_PS_person_96 (fun rg_7 => ?_)
    exact zt_iret (z := M 23 p1) (post := (fun z u => (((0 ≤ p1 ∧ p1 < M 4 1) ∧ (0 ≤ what ∧ what ≤ 5))) ∧ z = (xTell M p1 what) ∧ u = M)) hx hb hr hlk hK hX hS (by omega) ⟨by omega, by rw [e9]; rfl, rfl⟩ (Nat.le_of_ble_eq_true rfl) (Nat.le_of_ble_eq_true rfl) d_PS_person_97
  · skip
    refine lv_tableOut (tgt := 98) hx hb d_PS_person_12 (by rw [e9]; decide +kernel) (by decide) ?_
    refine lv_aload_n hx hb d_PS_person_98 rfl (lv_at hl 0 rfl) ?_
    refine z_getr hx hb iw_PS hown hK hX 0 rfl rfl 3 (by decide) tw_147 (fun _ h => h) 4 rfl d_PS_person_99 ?_
    refine z_getrN hx hb iw_Pe hown hK hX 4 rfl rfl 7 (by decide) tw_122 (fun _ h => h) 24 rfl d_PS_person_102 ?_
    refine lv_iload_n hx hb d_PS_person_105 rfl (lv_at hl 1 rfl) ?_
    refine z_iald (i := p1) (v := M 24 p1) hx hb hK hX 24 rfl (by omega) (by decide) rfl d_PS_person_106 (fun rg_8 => ?_)
    exact zt_iret (z := M 24 p1) (post := (fun z u => (((0 ≤ p1 ∧ p1 < M 4 1) ∧ (0 ≤ what ∧ what ≤ 5))) ∧ z = (xTell M p1 what) ∧ u = M)) hx hb hr hlk hK hX hS (by omega) ⟨by omega, by rw [e9]; rfl, rfl⟩ (Nat.le_of_ble_eq_true rfl) (Nat.le_of_ble_eq_true rfl) d_PS_person_107
set_option maxHeartbeats 4000000 in
set_option maxRecDepth 100000 in
theorem k_in (l : Launch) (hlt : l.stackTraces = false) (D : va_G) (ad : Nat → Nat) (cI : Nat → ClassId) (sd : Int64) (M : zM) (r what : Int) (g0 : -2147483648 ≤ r ∧ r ≤ 2147483647) (g1 : -2147483648 ≤ what ∧ what ≤ 2147483647) (hO : xOK M) : zTi l y_PS_in (.code y_PS_in c_PS_in 3 (some .int)) { frames := 8, cells := 2, slots := 12, locals := 133 } D (xL sd) ad cI M [.ref (ad 0), .int (zI (r)), .int (zI (what))] (fun z u => (((0 ≤ r ∧ r < M 1 0) ∧ (0 ≤ what ∧ what ≤ 2))) ∧ z = (xIn M r what) ∧ u = M) (fun E => (E = "java/lang/IllegalArgumentException" ∧ ¬ ((0 ≤ r ∧ r < M 1 0) ∧ (0 ≤ what ∧ what ≤ 2)))) 2 12 := by
  refine zt_of (cc := c_PS_in) (maxL := 3) (ret := some .int) (own := "PersonSeeds") (by decide) rfl rfl (Nat.le_of_ble_eq_true rfl) ?_
  intro p e s m below meth c ls hF hr hT hX hK hth hl
  obtain ⟨hx, hb, hml, hown, hlk⟩ := id hF
  have hS : va_S (zA ad (xL sd)) s.heap s.heap [] := va_S.rf
  have hl : lv_has ls 3 [(0, .ref (ad 0)), (1, .int (zI (r))), (2, .int (zI (what)))] := hl
  have o1 := hO.1
  have o2 := hO.2.1
  have o3 := hO.2.2.1
  have o4 := hO.2.2.2.1
  refine lv_aload_n hx hb d_PS_in_0 rfl (lv_at hl 0 rfl) ?_
  refine lv_iload_n hx hb d_PS_in_1 rfl (lv_at hl 1 rfl) ?_
  refine zt_callV hF hT (k_chkR l hlt D ad cI sd M r (by omega) (by omega)) (hK.cV 1 tw_296 tw_293 tw_1 tw_295 ts_4 (by decide +kernel) rfl rfl ⟨Nat.le_of_ble_eq_true rfl, Nat.le_of_ble_eq_true rfl⟩) hK hX hth hS rfl rfl rfl hl.1 rfl (Nat.le_of_ble_eq_true rfl) d_PS_in_2 ⟨Nat.le_of_ble_eq_true rfl, Nat.le_of_ble_eq_true rfl⟩ (fun E h9 => ⟨h9.1, fun q9 => h9.2 (by omega)⟩) (Nat.le_of_ble_eq_true rfl) (Nat.le_of_ble_eq_true rfl) (fun u H locs hp hX hS => ?_)
  obtain ⟨hc_1, hu⟩ := hp
  rw [hu] at hX
  refine lv_iload_n hx hb d_PS_in_5 rfl (lv_at hl 2 rfl) ?_
  refine z_const hx hb d_PS_in_6 ?_
  refine z_const hx hb d_PS_in_7 ?_
  refine zt_callS hF hT (k_chkB l hlt D ad cI sd M what 0 2 (by omega) (by omega) (by omega)) (hK.cS 3 tw_184 tw_182 tw_1 tw_183 (by decide +kernel) rfl rfl ⟨Nat.le_of_ble_eq_true rfl, Nat.le_of_ble_eq_true rfl⟩) hK hX hth hS rfl hl.1 rfl (Nat.le_of_ble_eq_true rfl) d_PS_in_8 ⟨Nat.le_of_ble_eq_true rfl, Nat.le_of_ble_eq_true rfl⟩ (fun E h9 => ⟨h9.1, fun q9 => h9.2 (by omega)⟩) (Nat.le_of_ble_eq_true rfl) (Nat.le_of_ble_eq_true rfl) (fun u H locs hp hX hS => ?_)
  obtain ⟨hc_2, hu⟩ := hp
  rw [hu] at hX
  refine lv_iload_n hx hb d_PS_in_11 rfl (lv_at hl 2 rfl) ?_
  rcases (show what = 0 ∨ what = 1 ∨ what = 2 by omega) with e9 | e9 | e9
  · skip
    refine lv_lookup (off := 28) (tgt := 40) hx hb d_PS_in_12 (by decide +kernel) (by rw [e9]; rfl) (by decide) ?_
    refine lv_aload_n hx hb d_PS_in_40 rfl (lv_at hl 0 rfl) ?_
    refine z_getr hx hb iw_PS hown hK hX 0 rfl rfl 0 (by decide) tw_144 (fun _ h => h) 1 rfl d_PS_in_41 ?_
    refine z_getrN hx hb iw_Ro hown hK hX 1 rfl rfl 2 (by decide) tw_32 (fun _ h => h) 6 rfl d_PS_in_44 ?_
    refine lv_iload_n hx hb d_PS_in_47 rfl (lv_at hl 1 rfl) ?_
    refine z_iald (i := r) (v := M 6 r) hx hb hK hX 6 rfl (by omega) (by decide) rfl d_PS_in_48 (fun rg_3 => ?_)
    exact zt_iret (z := M 6 r) (post := (fun z u => (((0 ≤ r ∧ r < M 1 0) ∧ (0 ≤ what ∧ what ≤ 2))) ∧ z = (xIn M r what) ∧ u = M)) hx hb hr hlk hK hX hS (by omega) ⟨by omega, by rw [e9]; rfl, rfl⟩ (Nat.le_of_ble_eq_true rfl) (Nat.le_of_ble_eq_true rfl) d_PS_in_49
  · skip
    refine lv_lookup (off := 38) (tgt := 50) hx hb d_PS_in_12 (by decide +kernel) (by rw [e9]; rfl) (by decide) ?_
    refine lv_aload_n hx hb d_PS_in_50 rfl (lv_at hl 0 rfl) ?_
    refine z_getr hx hb iw_PS hown hK hX 0 rfl rfl 0 (by decide) tw_144 (fun _ h => h) 1 rfl d_PS_in_51 ?_
    refine z_getrN hx hb iw_Ro hown hK hX 1 rfl rfl 3 (by decide) tw_34 (fun _ h => h) 7 rfl d_PS_in_54 ?_
    refine lv_iload_n hx hb d_PS_in_57 rfl (lv_at hl 1 rfl) ?_
    refine z_iald (i := r) (v := M 7 r) hx hb hK hX 7 rfl (by omega) (by decide) rfl d_PS_in_58 (fun rg_4 => ?_)
    exact zt_iret (z := M 7 r) (post := (fun z u => (((0 ≤ r ∧ r < M 1 0) ∧ (0 ≤ what ∧ what ≤ 2))) ∧ z = (xIn M r what) ∧ u = M)) hx hb hr hlk hK hX hS (by omega) ⟨by omega, by rw [e9]; rfl, rfl⟩ (Nat.le_of_ble_eq_true rfl) (Nat.le_of_ble_eq_true rfl) d_PS_in_59
  · skip
    refine lv_lookup (off := 48) (tgt := 60) hx hb d_PS_in_12 (by decide +kernel) (by rw [e9]; rfl) (by decide) ?_
    refine lv_aload_n hx hb d_PS_in_60 rfl (lv_at hl 0 rfl) ?_
    refine z_getr hx hb iw_PS hown hK hX 0 rfl rfl 0 (by decide) tw_144 (fun _ h => h) 1 rfl d_PS_in_61 ?_
    refine z_getrN hx hb iw_Ro hown hK hX 1 rfl rfl 4 (by decide) tw_36 (fun _ h => h) 8 rfl d_PS_in_64 ?_
    refine lv_iload_n hx hb d_PS_in_67 rfl (lv_at hl 1 rfl) ?_
    refine z_iald (i := r) (v := M 8 r) hx hb hK hX 8 rfl (by omega) (by decide) rfl d_PS_in_68 (fun rg_5 => ?_)
    exact zt_iret (z := M 8 r) (post := (fun z u => (((0 ≤ r ∧ r < M 1 0) ∧ (0 ≤ what ∧ what ≤ 2))) ∧ z = (xIn M r what) ∧ u = M)) hx hb hr hlk hK hX hS (by omega) ⟨by omega, by rw [e9]; rfl, rfl⟩ (Nat.le_of_ble_eq_true rfl) (Nat.le_of_ble_eq_true rfl) d_PS_in_69
set_option maxHeartbeats 4000000 in
set_option maxRecDepth 100000 in
theorem k_door (l : Launch) (hlt : l.stackTraces = false) (D : va_G) (ad : Nat → Nat) (cI : Nat → ClassId) (sd : Int64) (M : zM) (a b w : Int) (g0 : -2147483648 ≤ a ∧ a ≤ 2147483647) (g1 : -2147483648 ≤ b ∧ b ≤ 2147483647) (g2 : -2147483648 ≤ w ∧ w ≤ 2147483647) (hO : xOK M) : zTi l y_PS_door (.code y_PS_door c_PS_door 4 (some .int)) { frames := 8, cells := 5, slots := 30, locals := 133 } D (xL sd) ad cI M [.ref (ad 0), .int (zI (a)), .int (zI (b)), .int (zI (w))] (fun z u => (((0 ≤ a ∧ a < M 1 0) ∧ (0 ≤ b ∧ b < M 1 0) ∧ (1 ≤ w ∧ w ≤ 20) ∧ ¬ a = b) ∧ (M 0 4 = 0 ∧ M 2 0 < 16)) ∧ z = (M 2 0) ∧ u = xDoorsAdd M a b w) (fun E => (E = "java/lang/IllegalArgumentException" ∧ ¬ ((0 ≤ a ∧ a < M 1 0) ∧ (0 ≤ b ∧ b < M 1 0) ∧ (1 ≤ w ∧ w ≤ 20) ∧ ¬ a = b)) ∨ (E = "java/lang/IllegalStateException" ∧ ((0 ≤ a ∧ a < M 1 0) ∧ (0 ≤ b ∧ b < M 1 0) ∧ (1 ≤ w ∧ w ≤ 20) ∧ ¬ a = b) ∧ ¬ (M 0 4 = 0 ∧ M 2 0 < 16))) 5 30 := by
  refine zt_of (cc := c_PS_door) (maxL := 4) (ret := some .int) (own := "PersonSeeds") (by decide) rfl rfl (Nat.le_of_ble_eq_true rfl) ?_
  intro p e s m below meth c ls hF hr hT hX hK hth hl
  obtain ⟨hx, hb, hml, hown, hlk⟩ := id hF
  have hS : va_S (zA ad (xL sd)) s.heap s.heap [] := va_S.rf
  have hl : lv_has ls 4 [(0, .ref (ad 0)), (1, .int (zI (a))), (2, .int (zI (b))), (3, .int (zI (w)))] := hl
  have o1 := hO.1
  have o2 := hO.2.1
  have o3 := hO.2.2.1
  have o4 := hO.2.2.2.1
  refine lv_aload_n hx hb d_PS_door_0 rfl (lv_at hl 0 rfl) ?_
  refine lv_iload_n hx hb d_PS_door_1 rfl (lv_at hl 1 rfl) ?_
  refine zt_callV hF hT (k_chkR l hlt D ad cI sd M a (by omega) (by omega)) (hK.cV 1 tw_296 tw_293 tw_1 tw_295 ts_4 (by decide +kernel) rfl rfl ⟨Nat.le_of_ble_eq_true rfl, Nat.le_of_ble_eq_true rfl⟩) hK hX hth hS rfl rfl rfl hl.1 rfl (Nat.le_of_ble_eq_true rfl) d_PS_door_2 ⟨Nat.le_of_ble_eq_true rfl, Nat.le_of_ble_eq_true rfl⟩ (fun E h9 => Or.inl ⟨h9.1, fun q9 => h9.2 (by omega)⟩) (Nat.le_of_ble_eq_true rfl) (Nat.le_of_ble_eq_true rfl) (fun u H locs hp hX hS => ?_)
  obtain ⟨hc_1, hu⟩ := hp
  rw [hu] at hX
  refine lv_aload_n hx hb d_PS_door_5 rfl (lv_at hl 0 rfl) ?_
  refine lv_iload_n hx hb d_PS_door_6 rfl (lv_at hl 2 rfl) ?_
  refine zt_callV hF hT (k_chkR l hlt D ad cI sd M b (by omega) (by omega)) (hK.cV 1 tw_296 tw_293 tw_1 tw_295 ts_4 (by decide +kernel) rfl rfl ⟨Nat.le_of_ble_eq_true rfl, Nat.le_of_ble_eq_true rfl⟩) hK hX hth hS rfl rfl rfl hl.1 rfl (Nat.le_of_ble_eq_true rfl) d_PS_door_7 ⟨Nat.le_of_ble_eq_true rfl, Nat.le_of_ble_eq_true rfl⟩ (fun E h9 => Or.inl ⟨h9.1, fun q9 => h9.2 (by omega)⟩) (Nat.le_of_ble_eq_true rfl) (Nat.le_of_ble_eq_true rfl) (fun u H locs hp hX hS => ?_)
  obtain ⟨hc_2, hu⟩ := hp
  rw [hu] at hX
  refine lv_iload_n hx hb d_PS_door_10 rfl (lv_at hl 3 rfl) ?_
  refine z_const hx hb d_PS_door_11 ?_
  refine z_bipush hx hb d_PS_door_12 (by decide) ?_
  refine zt_callS hF hT (k_chkB l hlt D ad cI sd M w 1 20 (by omega) (by omega) (by omega)) (hK.cS 3 tw_184 tw_182 tw_1 tw_183 (by decide +kernel) rfl rfl ⟨Nat.le_of_ble_eq_true rfl, Nat.le_of_ble_eq_true rfl⟩) hK hX hth hS rfl hl.1 rfl (Nat.le_of_ble_eq_true rfl) d_PS_door_14 ⟨Nat.le_of_ble_eq_true rfl, Nat.le_of_ble_eq_true rfl⟩ (fun E h9 => Or.inl ⟨h9.1, fun q9 => h9.2 (by omega)⟩) (Nat.le_of_ble_eq_true rfl) (Nat.le_of_ble_eq_true rfl) (fun u H locs hp hX hS => ?_)
  obtain ⟨hc_3, hu⟩ := hp
  rw [hu] at hX
  refine lv_iload_n hx hb d_PS_door_17 rfl (lv_at hl 1 rfl) ?_
  refine lv_iload_n hx hb d_PS_door_18 rfl (lv_at hl 2 rfl) ?_
  refine zt_callS hF hT (k_chkD l hlt D ad cI sd M a b (by omega) (by omega)) (hK.cS 2 tw_299 tw_297 tw_1 tw_298 (by decide +kernel) rfl rfl ⟨Nat.le_of_ble_eq_true rfl, Nat.le_of_ble_eq_true rfl⟩) hK hX hth hS rfl hl.1 rfl (Nat.le_of_ble_eq_true rfl) d_PS_door_19 ⟨Nat.le_of_ble_eq_true rfl, Nat.le_of_ble_eq_true rfl⟩ (fun E h9 => Or.inl ⟨h9.1, fun q9 => h9.2 (by omega)⟩) (Nat.le_of_ble_eq_true rfl) (Nat.le_of_ble_eq_true rfl) (fun u H locs hp hX hS => ?_)
  obtain ⟨hc_4, hu⟩ := hp
  rw [hu] at hX
  refine lv_aload_n hx hb d_PS_door_22 rfl (lv_at hl 0 rfl) ?_
  refine z_geti (i := 4) (v := M 0 4) hx hb iw_PS hown hK hX 0 rfl rfl 4 (by decide) tw_148 (fun _ h => h) rfl rfl rfl d_PS_door_23 (fun rg_5 => ?_)
  refine z_if_ne (a := M 0 4) (tgt := 45) hx hb d_PS_door_26 (by decide) (by omega) (fun hb_6 => ?_) (fun hb_7 => ?_)
  · skip
    refine z_const hx hb d_PS_door_45 ?_
    refine zt_callS hF hT (k_chkS l hlt D ad cI sd M 0 (by omega)) (hK.cS 1 tw_254 tw_252 tw_1 tw_253 (by decide +kernel) rfl rfl ⟨Nat.le_of_ble_eq_true rfl, Nat.le_of_ble_eq_true rfl⟩) hK hX hth hS rfl hl.1 rfl (Nat.le_of_ble_eq_true rfl) d_PS_door_46 ⟨Nat.le_of_ble_eq_true rfl, Nat.le_of_ble_eq_true rfl⟩ (fun E h9 => Or.inr ⟨h9.1, by omega, fun q9 => h9.2 (by omega)⟩) (Nat.le_of_ble_eq_true rfl) (Nat.le_of_ble_eq_true rfl) (fun u H locs hp hX hS => ?_)
    obtain ⟨hc_8, hu⟩ := hp
    rw [hu] at hX
    exfalso
    omega
  · skip
    refine lv_aload_n hx hb d_PS_door_29 rfl (lv_at hl 0 rfl) ?_
    refine z_getr hx hb iw_PS hown hK hX 0 rfl rfl 1 (by decide) tw_145 (fun _ h => h) 2 rfl d_PS_door_30 ?_
    refine z_getiN (i := 0) (v := M 2 0) hx hb iw_Do hown hK hX 2 rfl rfl 0 (by decide) tw_59 (fun _ h => h) rfl rfl rfl d_PS_door_33 (fun rg_9 => ?_)
    refine z_bipush hx hb d_PS_door_36 (by decide) ?_
    refine z_icmp_ge (a := M 2 0) (b := 16) (tgt := 45) hx hb d_PS_door_38 (by decide) (by omega) (fun hb_10 => ?_) (fun hb_11 => ?_)
    · skip
      refine z_const hx hb d_PS_door_45 ?_
      refine zt_callS hF hT (k_chkS l hlt D ad cI sd M 0 (by omega)) (hK.cS 1 tw_254 tw_252 tw_1 tw_253 (by decide +kernel) rfl rfl ⟨Nat.le_of_ble_eq_true rfl, Nat.le_of_ble_eq_true rfl⟩) hK hX hth hS rfl hl.1 rfl (Nat.le_of_ble_eq_true rfl) d_PS_door_46 ⟨Nat.le_of_ble_eq_true rfl, Nat.le_of_ble_eq_true rfl⟩ (fun E h9 => Or.inr ⟨h9.1, by omega, fun q9 => h9.2 (by omega)⟩) (Nat.le_of_ble_eq_true rfl) (Nat.le_of_ble_eq_true rfl) (fun u H locs hp hX hS => ?_)
      obtain ⟨hc_12, hu⟩ := hp
      rw [hu] at hX
      exfalso
      omega
    · skip
      refine z_const hx hb d_PS_door_41 ?_
      refine lv_goto (tgt := 46) hx hb d_PS_door_42 (by decide) ?_
      refine zt_callS hF hT (k_chkS l hlt D ad cI sd M 1 (by omega)) (hK.cS 1 tw_254 tw_252 tw_1 tw_253 (by decide +kernel) rfl rfl ⟨Nat.le_of_ble_eq_true rfl, Nat.le_of_ble_eq_true rfl⟩) hK hX hth hS rfl hl.1 rfl (Nat.le_of_ble_eq_true rfl) d_PS_door_46 ⟨Nat.le_of_ble_eq_true rfl, Nat.le_of_ble_eq_true rfl⟩ (fun E h9 => Or.inr ⟨h9.1, by omega, fun q9 => h9.2 (by omega)⟩) (Nat.le_of_ble_eq_true rfl) (Nat.le_of_ble_eq_true rfl) (fun u H locs hp hX hS => ?_)
      obtain ⟨hc_13, hu⟩ := hp
      rw [hu] at hX
      refine lv_aload_n hx hb d_PS_door_49 rfl (lv_at hl 0 rfl) ?_
      refine z_getr hx hb iw_PS hown hK hX 0 rfl rfl 1 (by decide) tw_145 (fun _ h => h) 2 rfl d_PS_door_50 ?_
      refine lv_iload_n hx hb d_PS_door_53 rfl (lv_at hl 1 rfl) ?_
      refine lv_iload_n hx hb d_PS_door_54 rfl (lv_at hl 2 rfl) ?_
      refine lv_iload_n hx hb d_PS_door_55 rfl (lv_at hl 3 rfl) ?_
      refine z_callVNi hF (k_Do_add l D ad cI sd M a b w (by omega) (by omega) (by omega) (by omega) hO.2.2.2.2.2.1) (hK.cN 3 tw_304 tw_301 tw_3 tw_303 ts_5 (by decide +kernel) rfl rfl ⟨Nat.le_of_ble_eq_true rfl, Nat.le_of_ble_eq_true rfl⟩) hK hX hS rfl rfl rfl hl.1 rfl (Nat.le_of_ble_eq_true rfl) d_PS_door_56 ⟨Nat.le_of_ble_eq_true rfl, Nat.le_of_ble_eq_true rfl⟩ (fun z u H locs rg_14 hp hX hS => ?_)
      obtain ⟨hz, hu⟩ := hp
      rw [hu] at hX
      have hz : z = (M 2 0) := hz
      subst hz
      exact zt_iret (z := (M 2 0)) (post := (fun z u => (((0 ≤ a ∧ a < M 1 0) ∧ (0 ≤ b ∧ b < M 1 0) ∧ (1 ≤ w ∧ w ≤ 20) ∧ ¬ a = b) ∧ (M 0 4 = 0 ∧ M 2 0 < 16)) ∧ z = (M 2 0) ∧ u = xDoorsAdd M a b w)) hx hb hr hlk hK hX hS (by omega) ⟨by omega, by first | rfl | omega | (split <;> omega) | (repeat' split) <;> first | rfl | omega | simp_all, rfl⟩ (Nat.le_of_ble_eq_true rfl) (Nat.le_of_ble_eq_true rfl) d_PS_door_59
end
section
/-! arrivals, as they come to lie; minutes keep what always holds; counting -/
theorem xShiftN_is {t n : Int} (hn : 1 ≤ n) : ∀ (k : Nat) (M : zM), (xShiftN t n k M).1 ≤ k ∧ (∀ j : Int, ((xShiftN t n k M).1 : Int) ≤ j → j < k → t < M 19 j ∧ (xShiftN t n k M).2 19 (j + n) = M 19 j) ∧ (∀ j : Int, (j < ((xShiftN t n k M).1 : Int) + n ∨ (k : Int) + n ≤ j) → (xShiftN t n k M).2 19 j = M 19 j) ∧ ((xShiftN t n k M).1 = 0 ∨ M 19 (((xShiftN t n k M).1 : Int) - 1) ≤ t)
  | 0, M => ⟨Nat.le_refl 0, fun j h1 h2 => absurd h2 (by show ¬ j < ((0 : Nat) : Int); simp only [xShiftN] at h1; omega), fun j _ => rfl, Or.inl rfl⟩
  | k + 1, M => by
    unfold xShiftN
    by_cases h : t < M 19 (k : Int)
    · rw [if_pos h]
      obtain ⟨i1, i2, i3, i4⟩ := xShiftN_is hn k (zU M 19 ((k : Int) + n) (M 19 (k : Int)))
      generalize xShiftN t n k (zU M 19 ((k : Int) + n) (M 19 (k : Int))) = r at i1 i2 i3 i4 ⊢
      refine ⟨by omega, fun j h1 h2 => ?_, fun j hj => ?_, ?_⟩
      · by_cases hj : j = (k : Int)
        · subst hj
          refine ⟨h, ?_⟩
          rw [i3 _ (Or.inr (by omega)), zU_s]
        · obtain ⟨a1, a2⟩ := i2 j h1 (by omega)
          rw [zU_n (by omega)] at a1 a2
          exact ⟨a1, a2⟩
      · rw [i3 j (by omega), zU_n (by omega)]
      · rcases i4 with q | q
        · exact Or.inl q
        · rw [zU_n (by omega)] at q
          exact Or.inr q
    · rw [if_neg h]
      refine ⟨Nat.le_refl _, fun j h1 h2 => absurd h2 (by omega), fun j _ => rfl, Or.inr ?_⟩
      show M 19 (((k + 1 : Nat) : Int) - 1) ≤ t
      rw [show ((k + 1 : Nat) : Int) - 1 = (k : Int) by omega]
      omega
theorem xPutN_is {M : zM} {t q : Int} : ∀ (k : Nat) (j : Int), xPutN M t q k 19 j = if q ≤ j ∧ j < q + k then t else M 19 j
  | 0, j => by rw [if_neg (by omega)]; rfl
  | k + 1, j => by
    show zU (xPutN M t q k) 19 (q + k) t 19 j = _
    by_cases hj : j = q + (k : Int)
    · subst hj
      rw [zU_s, if_pos (by omega)]
    · rw [zU_n hj, xPutN_is k j]
      by_cases h : q ≤ j ∧ j < q + (k : Int)
      · rw [if_pos h, if_pos (by omega)]
      · rw [if_neg h, if_neg (by omega)]
/-- n that come at t, put in at q -/
def xIns (f : Int → Int) (q n t : Int) : Int → Int := fun j => if j < q then f j else if j < q + n then t else f (j - n)
theorem xPersAdd_19 {M : zM} {t n : Int} (hc : 0 ≤ M 4 1) (hn : 1 ≤ n) : ∃ q : Int, 0 ≤ q ∧ q ≤ M 4 1 ∧ (∀ j, q ≤ j → j < M 4 1 → t < M 19 j) ∧ (q = 0 ∨ M 19 (q - 1) ≤ t) ∧ ∀ j, 0 ≤ j → j < M 4 1 + n → xPersAdd M t n 19 j = xIns (M 19) q n t j := by
  obtain ⟨i1, i2, i3, i4⟩ := xShiftN_is (t := t) hn (M 4 1).toNat M
  refine ⟨((xShiftN t n (M 4 1).toNat M).1 : Int), by omega, by omega, fun j h1 h2 => (i2 j h1 (by omega)).1, ?_, fun j h1 h2 => ?_⟩
  · rcases i4 with h | h
    · exact Or.inl (by omega)
    · exact Or.inr h
  · unfold xPersAdd
    show zU _ 4 1 _ 19 j = _
    rw [zU_k (by decide), xPutN_is]
    unfold xIns
    generalize xShiftN t n (M 4 1).toNat M = r at i1 i2 i3 i4 ⊢
    by_cases ha : j < (r.1 : Int)
    · rw [if_neg (by omega), if_pos ha, i3 j (Or.inl (by omega))]
    · by_cases hb : j < (r.1 : Int) + n
      · rw [if_pos (by omega), if_neg ha, if_pos hb]
      · rw [if_neg (by omega), if_neg ha, if_neg hb]
        have := (i2 (j - n) (by omega) (by omega)).2
        rw [show j - n + n = j by omega] at this
        exact this
theorem xPersAdd_b {M : zM} {t n : Int} (h : ∀ x, 0 ≤ x → x < M 4 1 → 0 ≤ M 19 x ∧ M 19 x ≤ 1439) (h0 : 0 ≤ M 4 1) (hn : 1 ≤ n) (ht : 0 ≤ t) (ht2 : t ≤ 1439) : ∀ x, 0 ≤ x → x < xPersAdd M t n 4 1 → 0 ≤ xPersAdd M t n 19 x ∧ xPersAdd M t n 19 x ≤ 1439 := by
  intro x h1 h2
  rw [xPersAdd_41] at h2
  obtain ⟨q, q0, q1, -, -, qe⟩ := xPersAdd_19 (M := M) (t := t) h0 hn
  rw [qe x h1 h2]
  unfold xIns
  split
  · exact h x h1 (by omega)
  · split
    · exact ⟨ht, ht2⟩
    · exact h (x - n) (by omega) (by omega)
theorem xEnd_ok {M : zM} (h : xOK M) : xOK (xEnd M) := by
  have k : ∀ c, c ≠ 7 → c ≠ 8 → xEnd M c = M c := fun c h7 h8 => xEndN_c h7 h8 _
  refine h.of (by rw [k 1 (by decide) (by decide)]) (by rw [k 2 (by decide) (by decide)]) (by rw [k 4 (by decide) (by decide)]) (by rw [k 0 (by decide) (by decide)]) (k 9 (by decide) (by decide)) (k 10 (by decide) (by decide)) (k 15 (by decide) (by decide)) (k 20 (by decide) (by decide)) (k 23 (by decide) (by decide)) (k 19 (by decide) (by decide)) ?_ ?_
  · rw [k 16 (by decide) (by decide)]; exact h.2.2.2.2.2.2.1
  · rw [k 18 (by decide) (by decide)]; exact h.2.2.2.2.2.2.2.1
theorem xStepN_ok : ∀ (n : Nat) (p : Int) {M : zM}, xOK M → 0 ≤ p → p + n ≤ 60 → xOK (xStepN n p M) ∧ xStepN n p M 0 4 = M 0 4
  | 0, p, M, h, _, _ => ⟨h, rfl⟩
  | n + 1, p, M, h, hp, hn => by
    unfold xStepN
    split
    · obtain ⟨a, b⟩ := xStepN_ok n (p + 1) (h.step hp (by omega)) (by omega) (by omega)
      exact ⟨a, by rw [b, xStep_04]⟩
    · exact ⟨h, rfl⟩
theorem xMin_ok {M : zM} (h : xOK M) (hm : M 0 4 < 2000) : xOK (xMin M) ∧ xMin M 0 4 = M 0 4 + 1 := by
  have hf := xFill_ok h
  have hb := h.2.2.1
  obtain ⟨a, b⟩ := xStepN_ok (M 4 1).toNat 0 hf (by omega) (by omega)
  have e := xEnd_ok a
  have e0 : xMinA M 0 4 = M 0 4 := by
    unfold xMinA xEnd
    rw [xEndN_c (by decide) (by decide), b]
    rfl
  have e1 : xMin M 0 4 = M 0 4 + 1 := by
    unfold xMin
    rw [zU_s, e0]
  refine ⟨?_, e1⟩
  have k : ∀ c, c ≠ 0 → xMin M c = xMinA M c := fun c hc => zU_k hc
  obtain ⟨a1, a2, a3, a4, a5, a6, a7, a8, a9, a10⟩ := e
  refine ⟨?_, ?_, ?_, ?_, ?_, ?_, ?_, ?_, ?_, ?_⟩
  · rw [k 1 (by decide)]; exact a1
  · rw [k 2 (by decide)]; exact a2
  · rw [k 4 (by decide)]; exact a3
  · rw [e1]; have := h.2.2.2.1; omega
  · rw [k 2 (by decide), k 9 (by decide), k 10 (by decide)]; exact a5
  · rw [k 15 (by decide)]; exact a6
  · rw [k 16 (by decide)]; exact a7
  · rw [k 18 (by decide)]; exact a8
  · rw [k 20 (by decide), k 23 (by decide)]; exact a9
  · rw [k 4 (by decide), k 19 (by decide)]; exact a10
def xCnt (M : zM) (r t : Int) : Nat → Int
  | 0 => 0
  | k + 1 => xCnt M r t k + (if xBeh M k t = r then 1 else 0)
theorem xCnt_b (M : zM) (r t : Int) : ∀ k : Nat, 0 ≤ xCnt M r t k ∧ xCnt M r t k ≤ k
  | 0 => ⟨Int.le_refl 0, Int.le_refl 0⟩
  | k + 1 => by
    have := xCnt_b M r t k
    unfold xCnt
    split <;> omega
end
section
set_option maxHeartbeats 4000000 in
set_option maxRecDepth 100000 in
theorem k_room (l : Launch) (hlt : l.stackTraces = false) (D : va_G) (ad : Nat → Nat) (cI : Nat → ClassId) (sd : Int64) (M : zM) (v : Int) (g0 : -2147483648 ≤ v ∧ v ≤ 2147483647) (hO : xOK M) : zTi l y_PS_room (.code y_PS_room c_PS_room 3 (some .int)) { frames := 7, cells := 2, slots := 12, locals := 112 } D (xL sd) ad cI M [.ref (ad 0), .int (zI (v))] (fun z u => ((1 ≤ v ∧ v ≤ 100) ∧ (M 0 4 = 0 ∧ M 1 0 < 12)) ∧ z = (M 1 0) ∧ u = xPlan sd (xRoomsAdd M v) (M 1 0 + 1)) (fun E => (E = "java/lang/IllegalArgumentException" ∧ ¬ (1 ≤ v ∧ v ≤ 100)) ∨ (E = "java/lang/IllegalStateException" ∧ (1 ≤ v ∧ v ≤ 100) ∧ ¬ (M 0 4 = 0 ∧ M 1 0 < 12))) 2 12 := by
  refine zt_of (cc := c_PS_room) (maxL := 3) (ret := some .int) (own := "PersonSeeds") (by decide) rfl rfl (Nat.le_of_ble_eq_true rfl) ?_
  intro p e s m below meth c ls hF hr hT hX hK hth hl
  obtain ⟨hx, hb, hml, hown, hlk⟩ := id hF
  have hS : va_S (zA ad (xL sd)) s.heap s.heap [] := va_S.rf
  have hl : lv_has ls 3 [(0, .ref (ad 0)), (1, .int (zI (v)))] := hl
  have o1 := hO.1
  have o2 := hO.2.1
  have o3 := hO.2.2.1
  have o4 := hO.2.2.2.1
  refine lv_iload_n hx hb d_PS_room_0 rfl (lv_at hl 1 rfl) ?_
  refine z_const hx hb d_PS_room_1 ?_
  refine z_bipush hx hb d_PS_room_2 (by decide) ?_
  refine zt_callS hF hT (k_chkB l hlt D ad cI sd M v 1 100 (by omega) (by omega) (by omega)) (hK.cS 3 tw_184 tw_182 tw_1 tw_183 (by decide +kernel) rfl rfl ⟨Nat.le_of_ble_eq_true rfl, Nat.le_of_ble_eq_true rfl⟩) hK hX hth hS rfl hl.1 rfl (Nat.le_of_ble_eq_true rfl) d_PS_room_4 ⟨Nat.le_of_ble_eq_true rfl, Nat.le_of_ble_eq_true rfl⟩ (fun E h9 => Or.inl ⟨h9.1, fun q9 => h9.2 (by omega)⟩) (Nat.le_of_ble_eq_true rfl) (Nat.le_of_ble_eq_true rfl) (fun u H locs hp hX hS => ?_)
  obtain ⟨hc_1, hu⟩ := hp
  rw [hu] at hX
  refine lv_aload_n hx hb d_PS_room_7 rfl (lv_at hl 0 rfl) ?_
  refine z_geti (i := 4) (v := M 0 4) hx hb iw_PS hown hK hX 0 rfl rfl 4 (by decide) tw_148 (fun _ h => h) rfl rfl rfl d_PS_room_8 (fun rg_2 => ?_)
  refine z_if_ne (a := M 0 4) (tgt := 30) hx hb d_PS_room_11 (by decide) (by omega) (fun hb_3 => ?_) (fun hb_4 => ?_)
  · skip
    refine z_const hx hb d_PS_room_30 ?_
    refine zt_callS hF hT (k_chkS l hlt D ad cI sd M 0 (by omega)) (hK.cS 1 tw_254 tw_252 tw_1 tw_253 (by decide +kernel) rfl rfl ⟨Nat.le_of_ble_eq_true rfl, Nat.le_of_ble_eq_true rfl⟩) hK hX hth hS rfl hl.1 rfl (Nat.le_of_ble_eq_true rfl) d_PS_room_31 ⟨Nat.le_of_ble_eq_true rfl, Nat.le_of_ble_eq_true rfl⟩ (fun E h9 => Or.inr ⟨h9.1, by omega, fun q9 => h9.2 (by omega)⟩) (Nat.le_of_ble_eq_true rfl) (Nat.le_of_ble_eq_true rfl) (fun u H locs hp hX hS => ?_)
    obtain ⟨hc_5, hu⟩ := hp
    rw [hu] at hX
    exfalso
    omega
  · skip
    refine lv_aload_n hx hb d_PS_room_14 rfl (lv_at hl 0 rfl) ?_
    refine z_getr hx hb iw_PS hown hK hX 0 rfl rfl 0 (by decide) tw_144 (fun _ h => h) 1 rfl d_PS_room_15 ?_
    refine z_getiN (i := 0) (v := M 1 0) hx hb iw_Ro hown hK hX 1 rfl rfl 0 (by decide) tw_29 (fun _ h => h) rfl rfl rfl d_PS_room_18 (fun rg_6 => ?_)
    refine z_bipush hx hb d_PS_room_21 (by decide) ?_
    refine z_icmp_ge (a := M 1 0) (b := 12) (tgt := 30) hx hb d_PS_room_23 (by decide) (by omega) (fun hb_7 => ?_) (fun hb_8 => ?_)
    · skip
      refine z_const hx hb d_PS_room_30 ?_
      refine zt_callS hF hT (k_chkS l hlt D ad cI sd M 0 (by omega)) (hK.cS 1 tw_254 tw_252 tw_1 tw_253 (by decide +kernel) rfl rfl ⟨Nat.le_of_ble_eq_true rfl, Nat.le_of_ble_eq_true rfl⟩) hK hX hth hS rfl hl.1 rfl (Nat.le_of_ble_eq_true rfl) d_PS_room_31 ⟨Nat.le_of_ble_eq_true rfl, Nat.le_of_ble_eq_true rfl⟩ (fun E h9 => Or.inr ⟨h9.1, by omega, fun q9 => h9.2 (by omega)⟩) (Nat.le_of_ble_eq_true rfl) (Nat.le_of_ble_eq_true rfl) (fun u H locs hp hX hS => ?_)
      obtain ⟨hc_9, hu⟩ := hp
      rw [hu] at hX
      exfalso
      omega
    · skip
      refine z_const hx hb d_PS_room_26 ?_
      refine lv_goto (tgt := 31) hx hb d_PS_room_27 (by decide) ?_
      refine zt_callS hF hT (k_chkS l hlt D ad cI sd M 1 (by omega)) (hK.cS 1 tw_254 tw_252 tw_1 tw_253 (by decide +kernel) rfl rfl ⟨Nat.le_of_ble_eq_true rfl, Nat.le_of_ble_eq_true rfl⟩) hK hX hth hS rfl hl.1 rfl (Nat.le_of_ble_eq_true rfl) d_PS_room_31 ⟨Nat.le_of_ble_eq_true rfl, Nat.le_of_ble_eq_true rfl⟩ (fun E h9 => Or.inr ⟨h9.1, by omega, fun q9 => h9.2 (by omega)⟩) (Nat.le_of_ble_eq_true rfl) (Nat.le_of_ble_eq_true rfl) (fun u H locs hp hX hS => ?_)
      obtain ⟨hc_10, hu⟩ := hp
      rw [hu] at hX
      refine lv_aload_n hx hb d_PS_room_34 rfl (lv_at hl 0 rfl) ?_
      refine z_getr hx hb iw_PS hown hK hX 0 rfl rfl 0 (by decide) tw_144 (fun _ h => h) 1 rfl d_PS_room_35 ?_
      refine lv_iload_n hx hb d_PS_room_38 rfl (lv_at hl 1 rfl) ?_
      refine z_callVNi hF (k_Ro_add l D ad cI sd M v (by omega) (by omega)) (hK.cN 1 tw_274 tw_271 tw_2 tw_273 ts_1 (by decide +kernel) rfl rfl ⟨Nat.le_of_ble_eq_true rfl, Nat.le_of_ble_eq_true rfl⟩) hK hX hS rfl rfl rfl hl.1 rfl (Nat.le_of_ble_eq_true rfl) d_PS_room_39 ⟨Nat.le_of_ble_eq_true rfl, Nat.le_of_ble_eq_true rfl⟩ (fun z u H locs rg_11 hp hX hS => ?_)
      obtain ⟨hz, hu⟩ := hp
      rw [hu] at hX
      have hz : z = (M 1 0) := hz
      subst hz
      refine lv_istore_n (lv' := [(2, .int (zI ((M 1 0)))), (0, .ref (ad 0)), (1, .int (zI (v)))]) hx hb d_PS_room_42 rfl hl (by decide) rfl (fun ls hl => ?_)
      refine lv_aload_n hx hb d_PS_room_43 rfl (lv_at hl 1 rfl) ?_
      refine z_getr hx hb iw_PS hown hK hX 0 rfl rfl 3 (by decide) tw_147 (fun _ h => h) 4 rfl d_PS_room_44 ?_
      refine lv_aload_n hx hb d_PS_room_47 rfl (lv_at hl 1 rfl) ?_
      refine z_getr hx hb iw_PS hown hK hX 0 rfl rfl 0 (by decide) tw_144 (fun _ h => h) 1 rfl d_PS_room_48 ?_
      refine z_getiN (i := 0) (v := (xRoomsAdd M v) 1 0) hx hb iw_Ro hown hK hX 1 rfl rfl 0 (by decide) tw_29 (fun _ h => h) rfl rfl rfl d_PS_room_51 (fun rg_12 => ?_)
      refine z_callVNv hF (k_Pe_plan l D ad cI sd (xRoomsAdd M v) ((xRoomsAdd M v) 1 0) (by rw [xRoomsAdd_1]; omega) (by have e9 : xRoomsAdd M v 4 = M 4 := xRoomsAdd_c (by decide) (by decide); rw [e9]; exact o3) (by have e9 : xRoomsAdd M v 4 = M 4 := xRoomsAdd_c (by decide) (by decide); have e8 : xRoomsAdd M v 19 = M 19 := xRoomsAdd_c (by decide) (by decide); rw [e9, e8]; exact hO.2.2.2.2.2.2.2.2.2)) (hK.cN 1 tw_278 tw_275 tw_6 tw_277 ts_2 (by decide +kernel) rfl rfl ⟨Nat.le_of_ble_eq_true rfl, Nat.le_of_ble_eq_true rfl⟩) hK hX hS rfl rfl rfl hl.1 rfl (Nat.le_of_ble_eq_true rfl) d_PS_room_54 ⟨Nat.le_of_ble_eq_true rfl, Nat.le_of_ble_eq_true rfl⟩ (fun u H locs hp hX hS => ?_)
      rw [hp] at hX
      refine lv_iload_n hx hb d_PS_room_57 rfl (lv_at hl 0 rfl) ?_
      exact zt_iret (z := (M 1 0)) (post := (fun z u => ((1 ≤ v ∧ v ≤ 100) ∧ (M 0 4 = 0 ∧ M 1 0 < 12)) ∧ z = (M 1 0) ∧ u = xPlan sd (xRoomsAdd M v) (M 1 0 + 1))) hx hb hr hlk hK hX hS (by omega) ⟨by omega, rfl, by rw [xRoomsAdd_1]⟩ (Nat.le_of_ble_eq_true rfl) (Nat.le_of_ble_eq_true rfl) d_PS_room_58
set_option maxHeartbeats 4000000 in
set_option maxRecDepth 100000 in
theorem k_arrives (l : Launch) (hlt : l.stackTraces = false) (D : va_G) (ad : Nat → Nat) (cI : Nat → ClassId) (sd : Int64) (M : zM) (t n : Int) (g0 : -2147483648 ≤ t ∧ t ≤ 2147483647) (g1 : -2147483648 ≤ n ∧ n ≤ 2147483647) (hO : xOK M) : zTi l y_PS_arrives (.code y_PS_arrives c_PS_arrives 3 (some .int)) { frames := 7, cells := 3, slots := 18, locals := 112 } D (xL sd) ad cI M [.ref (ad 0), .int (zI (t)), .int (zI (n))] (fun z u => (((0 ≤ t ∧ t ≤ 1439) ∧ (1 ≤ n ∧ n ≤ 20)) ∧ (M 0 4 = 0 ∧ 0 < M 1 0 ∧ M 4 1 + n ≤ 60)) ∧ z = (M 4 1 + n) ∧ u = xPlan sd (xPersAdd M t n) (M 1 0)) (fun E => (E = "java/lang/IllegalArgumentException" ∧ ¬ ((0 ≤ t ∧ t ≤ 1439) ∧ (1 ≤ n ∧ n ≤ 20))) ∨ (E = "java/lang/IllegalStateException" ∧ ((0 ≤ t ∧ t ≤ 1439) ∧ (1 ≤ n ∧ n ≤ 20)) ∧ ¬ (M 0 4 = 0 ∧ 0 < M 1 0 ∧ M 4 1 + n ≤ 60))) 3 18 := by
  refine zt_of (cc := c_PS_arrives) (maxL := 3) (ret := some .int) (own := "PersonSeeds") (by decide) rfl rfl (Nat.le_of_ble_eq_true rfl) ?_
  intro p e s m below meth c ls hF hr hT hX hK hth hl
  obtain ⟨hx, hb, hml, hown, hlk⟩ := id hF
  have hS : va_S (zA ad (xL sd)) s.heap s.heap [] := va_S.rf
  have hl : lv_has ls 3 [(0, .ref (ad 0)), (1, .int (zI (t))), (2, .int (zI (n)))] := hl
  have o1 := hO.1
  have o2 := hO.2.1
  have o3 := hO.2.2.1
  have o4 := hO.2.2.2.1
  refine lv_iload_n hx hb d_PS_arrives_0 rfl (lv_at hl 1 rfl) ?_
  refine z_const hx hb d_PS_arrives_1 ?_
  refine z_sipush hx hb d_PS_arrives_2 (by decide) ?_
  refine zt_callS hF hT (k_chkB l hlt D ad cI sd M t 0 1439 (by omega) (by omega) (by omega)) (hK.cS 3 tw_184 tw_182 tw_1 tw_183 (by decide +kernel) rfl rfl ⟨Nat.le_of_ble_eq_true rfl, Nat.le_of_ble_eq_true rfl⟩) hK hX hth hS rfl hl.1 rfl (Nat.le_of_ble_eq_true rfl) d_PS_arrives_5 ⟨Nat.le_of_ble_eq_true rfl, Nat.le_of_ble_eq_true rfl⟩ (fun E h9 => Or.inl ⟨h9.1, fun q9 => h9.2 (by omega)⟩) (Nat.le_of_ble_eq_true rfl) (Nat.le_of_ble_eq_true rfl) (fun u H locs hp hX hS => ?_)
  obtain ⟨hc_1, hu⟩ := hp
  rw [hu] at hX
  refine lv_iload_n hx hb d_PS_arrives_8 rfl (lv_at hl 2 rfl) ?_
  refine z_const hx hb d_PS_arrives_9 ?_
  refine z_bipush hx hb d_PS_arrives_10 (by decide) ?_
  refine zt_callS hF hT (k_chkB l hlt D ad cI sd M n 1 20 (by omega) (by omega) (by omega)) (hK.cS 3 tw_184 tw_182 tw_1 tw_183 (by decide +kernel) rfl rfl ⟨Nat.le_of_ble_eq_true rfl, Nat.le_of_ble_eq_true rfl⟩) hK hX hth hS rfl hl.1 rfl (Nat.le_of_ble_eq_true rfl) d_PS_arrives_12 ⟨Nat.le_of_ble_eq_true rfl, Nat.le_of_ble_eq_true rfl⟩ (fun E h9 => Or.inl ⟨h9.1, fun q9 => h9.2 (by omega)⟩) (Nat.le_of_ble_eq_true rfl) (Nat.le_of_ble_eq_true rfl) (fun u H locs hp hX hS => ?_)
  obtain ⟨hc_2, hu⟩ := hp
  rw [hu] at hX
  refine lv_aload_n hx hb d_PS_arrives_15 rfl (lv_at hl 0 rfl) ?_
  refine z_geti (i := 4) (v := M 0 4) hx hb iw_PS hown hK hX 0 rfl rfl 4 (by decide) tw_148 (fun _ h => h) rfl rfl rfl d_PS_arrives_16 (fun rg_3 => ?_)
  refine z_if_ne (a := M 0 4) (tgt := 50) hx hb d_PS_arrives_19 (by decide) (by omega) (fun hb_4 => ?_) (fun hb_5 => ?_)
  · skip
    refine z_const hx hb d_PS_arrives_50 ?_
    refine zt_callS hF hT (k_chkS l hlt D ad cI sd M 0 (by omega)) (hK.cS 1 tw_254 tw_252 tw_1 tw_253 (by decide +kernel) rfl rfl ⟨Nat.le_of_ble_eq_true rfl, Nat.le_of_ble_eq_true rfl⟩) hK hX hth hS rfl hl.1 rfl (Nat.le_of_ble_eq_true rfl) d_PS_arrives_51 ⟨Nat.le_of_ble_eq_true rfl, Nat.le_of_ble_eq_true rfl⟩ (fun E h9 => Or.inr ⟨h9.1, by omega, fun q9 => h9.2 (by omega)⟩) (Nat.le_of_ble_eq_true rfl) (Nat.le_of_ble_eq_true rfl) (fun u H locs hp hX hS => ?_)
    obtain ⟨hc_6, hu⟩ := hp
    rw [hu] at hX
    exfalso
    omega
  · skip
    refine lv_aload_n hx hb d_PS_arrives_22 rfl (lv_at hl 0 rfl) ?_
    refine z_getr hx hb iw_PS hown hK hX 0 rfl rfl 0 (by decide) tw_144 (fun _ h => h) 1 rfl d_PS_arrives_23 ?_
    refine z_getiN (i := 0) (v := M 1 0) hx hb iw_Ro hown hK hX 1 rfl rfl 0 (by decide) tw_29 (fun _ h => h) rfl rfl rfl d_PS_arrives_26 (fun rg_7 => ?_)
    refine z_if_le (a := M 1 0) (tgt := 50) hx hb d_PS_arrives_29 (by decide) (by omega) (fun hb_8 => ?_) (fun hb_9 => ?_)
    · skip
      refine z_const hx hb d_PS_arrives_50 ?_
      refine zt_callS hF hT (k_chkS l hlt D ad cI sd M 0 (by omega)) (hK.cS 1 tw_254 tw_252 tw_1 tw_253 (by decide +kernel) rfl rfl ⟨Nat.le_of_ble_eq_true rfl, Nat.le_of_ble_eq_true rfl⟩) hK hX hth hS rfl hl.1 rfl (Nat.le_of_ble_eq_true rfl) d_PS_arrives_51 ⟨Nat.le_of_ble_eq_true rfl, Nat.le_of_ble_eq_true rfl⟩ (fun E h9 => Or.inr ⟨h9.1, by omega, fun q9 => h9.2 (by omega)⟩) (Nat.le_of_ble_eq_true rfl) (Nat.le_of_ble_eq_true rfl) (fun u H locs hp hX hS => ?_)
      obtain ⟨hc_10, hu⟩ := hp
      rw [hu] at hX
      exfalso
      omega
    · skip
      refine lv_aload_n hx hb d_PS_arrives_32 rfl (lv_at hl 0 rfl) ?_
      refine z_getr hx hb iw_PS hown hK hX 0 rfl rfl 3 (by decide) tw_147 (fun _ h => h) 4 rfl d_PS_arrives_33 ?_
      refine z_getiN (i := 1) (v := M 4 1) hx hb iw_Pe hown hK hX 4 rfl rfl 1 (by decide) tw_110 (fun _ h => h) rfl rfl rfl d_PS_arrives_36 (fun rg_11 => ?_)
      refine lv_iload_n hx hb d_PS_arrives_39 rfl (lv_at hl 2 rfl) ?_
      refine z_iadd hx hb d_PS_arrives_40 ?_
      refine z_bipush hx hb d_PS_arrives_41 (by decide) ?_
      refine z_icmp_gt (a := (M 4 1) + n) (b := 60) (tgt := 50) hx hb d_PS_arrives_43 (by decide) (by omega) (fun hb_12 => ?_) (fun hb_13 => ?_)
      · skip
        refine z_const hx hb d_PS_arrives_50 ?_
        refine zt_callS hF hT (k_chkS l hlt D ad cI sd M 0 (by omega)) (hK.cS 1 tw_254 tw_252 tw_1 tw_253 (by decide +kernel) rfl rfl ⟨Nat.le_of_ble_eq_true rfl, Nat.le_of_ble_eq_true rfl⟩) hK hX hth hS rfl hl.1 rfl (Nat.le_of_ble_eq_true rfl) d_PS_arrives_51 ⟨Nat.le_of_ble_eq_true rfl, Nat.le_of_ble_eq_true rfl⟩ (fun E h9 => Or.inr ⟨h9.1, by omega, fun q9 => h9.2 (by omega)⟩) (Nat.le_of_ble_eq_true rfl) (Nat.le_of_ble_eq_true rfl) (fun u H locs hp hX hS => ?_)
        obtain ⟨hc_14, hu⟩ := hp
        rw [hu] at hX
        exfalso
        omega
      · skip
        refine z_const hx hb d_PS_arrives_46 ?_
        refine lv_goto (tgt := 51) hx hb d_PS_arrives_47 (by decide) ?_
        refine zt_callS hF hT (k_chkS l hlt D ad cI sd M 1 (by omega)) (hK.cS 1 tw_254 tw_252 tw_1 tw_253 (by decide +kernel) rfl rfl ⟨Nat.le_of_ble_eq_true rfl, Nat.le_of_ble_eq_true rfl⟩) hK hX hth hS rfl hl.1 rfl (Nat.le_of_ble_eq_true rfl) d_PS_arrives_51 ⟨Nat.le_of_ble_eq_true rfl, Nat.le_of_ble_eq_true rfl⟩ (fun E h9 => Or.inr ⟨h9.1, by omega, fun q9 => h9.2 (by omega)⟩) (Nat.le_of_ble_eq_true rfl) (Nat.le_of_ble_eq_true rfl) (fun u H locs hp hX hS => ?_)
        obtain ⟨hc_15, hu⟩ := hp
        rw [hu] at hX
        refine lv_aload_n hx hb d_PS_arrives_54 rfl (lv_at hl 0 rfl) ?_
        refine z_getr hx hb iw_PS hown hK hX 0 rfl rfl 3 (by decide) tw_147 (fun _ h => h) 4 rfl d_PS_arrives_55 ?_
        refine lv_iload_n hx hb d_PS_arrives_58 rfl (lv_at hl 1 rfl) ?_
        refine lv_iload_n hx hb d_PS_arrives_59 rfl (lv_at hl 2 rfl) ?_
        refine z_callVNv hF (k_Pe_add l D ad cI sd M t n (by omega) (by omega) (by omega) (by omega)) (hK.cN 2 tw_326 tw_323 tw_6 tw_325 ts_8 (by decide +kernel) rfl rfl ⟨Nat.le_of_ble_eq_true rfl, Nat.le_of_ble_eq_true rfl⟩) hK hX hS rfl rfl rfl hl.1 rfl (Nat.le_of_ble_eq_true rfl) d_PS_arrives_60 ⟨Nat.le_of_ble_eq_true rfl, Nat.le_of_ble_eq_true rfl⟩ (fun u H locs hp hX hS => ?_)
        rw [hp] at hX
        refine lv_aload_n hx hb d_PS_arrives_63 rfl (lv_at hl 0 rfl) ?_
        refine z_getr hx hb iw_PS hown hK hX 0 rfl rfl 3 (by decide) tw_147 (fun _ h => h) 4 rfl d_PS_arrives_64 ?_
        refine lv_aload_n hx hb d_PS_arrives_67 rfl (lv_at hl 0 rfl) ?_
        refine z_getr hx hb iw_PS hown hK hX 0 rfl rfl 0 (by decide) tw_144 (fun _ h => h) 1 rfl d_PS_arrives_68 ?_
        refine z_getiN (i := 0) (v := (xPersAdd M t n) 1 0) hx hb iw_Ro hown hK hX 1 rfl rfl 0 (by decide) tw_29 (fun _ h => h) rfl rfl rfl d_PS_arrives_71 (fun rg_16 => ?_)
        refine z_callVNv hF (k_Pe_plan l D ad cI sd (xPersAdd M t n) ((xPersAdd M t n) 1 0) (by have e9 : xPersAdd M t n 1 = M 1 := xPersAdd_c (by decide) (by decide); rw [e9]; omega) (by rw [xPersAdd_41]; omega) (xPersAdd_b hO.2.2.2.2.2.2.2.2.2 (by omega) (by omega) (by omega) (by omega))) (hK.cN 1 tw_278 tw_275 tw_6 tw_277 ts_2 (by decide +kernel) rfl rfl ⟨Nat.le_of_ble_eq_true rfl, Nat.le_of_ble_eq_true rfl⟩) hK hX hS rfl rfl rfl hl.1 rfl (Nat.le_of_ble_eq_true rfl) d_PS_arrives_74 ⟨Nat.le_of_ble_eq_true rfl, Nat.le_of_ble_eq_true rfl⟩ (fun u H locs hp hX hS => ?_)
        rw [hp] at hX
        have e8 : xPlan sd (xPersAdd M t n) (xPersAdd M t n 1 0) 4 1 = M 4 1 + n := by unfold xPlan; rw [xPlanN_c (by decide) (by decide) (by decide) (by decide) (by decide), xPersAdd_41]
        refine lv_aload_n hx hb d_PS_arrives_77 rfl (lv_at hl 0 rfl) ?_
        refine z_getr hx hb iw_PS hown hK hX 0 rfl rfl 3 (by decide) tw_147 (fun _ h => h) 4 rfl d_PS_arrives_78 ?_
        refine z_getiN (i := 1) (v := (xPlan sd (xPersAdd M t n) ((xPersAdd M t n) 1 0)) 4 1) hx hb iw_Pe hown hK hX 4 rfl rfl 1 (by decide) tw_110 (fun _ h => h) rfl rfl rfl d_PS_arrives_81 (fun rg_17 => ?_)
        exact zt_iret (z := (xPlan sd (xPersAdd M t n) ((xPersAdd M t n) 1 0)) 4 1) (post := (fun z u => (((0 ≤ t ∧ t ≤ 1439) ∧ (1 ≤ n ∧ n ≤ 20)) ∧ (M 0 4 = 0 ∧ 0 < M 1 0 ∧ M 4 1 + n ≤ 60)) ∧ z = (M 4 1 + n) ∧ u = xPlan sd (xPersAdd M t n) (M 1 0))) hx hb hr hlk hK hX hS (by omega) ⟨by omega, e8, by have e9 : xPersAdd M t n 1 = M 1 := xPersAdd_c (by decide) (by decide); rw [e9]⟩ (Nat.le_of_ble_eq_true rfl) (Nat.le_of_ble_eq_true rfl) d_PS_arrives_84
set_option maxHeartbeats 4000000 in
set_option maxRecDepth 100000 in
theorem k_run (l : Launch) (hlt : l.stackTraces = false) (D : va_G) (ad : Nat → Nat) (cI : Nat → ClassId) (sd : Int64) (M : zM) (n : Int) (g0 : -2147483648 ≤ n ∧ n ≤ 2147483647) (hO : xOK M) : zTi l y_PS_run (.code y_PS_run c_PS_run 3 (some .int)) { frames := 7, cells := 2, slots := 12, locals := 116 } D (xL sd) ad cI M [.ref (ad 0), .int (zI (n))] (fun z u => ((1 ≤ n ∧ n ≤ 500) ∧ (0 < M 1 0 ∧ M 0 4 + n ≤ 2000)) ∧ z = (bm (xRun M n.toNat 0 5 - xRun M n.toNat 0 6)) ∧ u = xRun M n.toNat) (fun E => (E = "java/lang/IllegalArgumentException" ∧ ¬ (1 ≤ n ∧ n ≤ 500)) ∨ (E = "java/lang/IllegalStateException" ∧ (1 ≤ n ∧ n ≤ 500) ∧ ¬ (0 < M 1 0 ∧ M 0 4 + n ≤ 2000))) 2 12 := by
  refine zt_of (cc := c_PS_run) (maxL := 3) (ret := some .int) (own := "PersonSeeds") (by decide) rfl rfl (Nat.le_of_ble_eq_true rfl) ?_
  intro p e s m below meth c ls hF hr hT hX hK hth hl
  obtain ⟨hx, hb, hml, hown, hlk⟩ := id hF
  have hS : va_S (zA ad (xL sd)) s.heap s.heap [] := va_S.rf
  have hl : lv_has ls 3 [(0, .ref (ad 0)), (1, .int (zI (n)))] := hl
  have o1 := hO.1
  have o2 := hO.2.1
  have o3 := hO.2.2.1
  have o4 := hO.2.2.2.1
  refine lv_iload_n hx hb d_PS_run_0 rfl (lv_at hl 1 rfl) ?_
  refine z_const hx hb d_PS_run_1 ?_
  refine z_sipush hx hb d_PS_run_2 (by decide) ?_
  refine zt_callS hF hT (k_chkB l hlt D ad cI sd M n 1 500 (by omega) (by omega) (by omega)) (hK.cS 3 tw_184 tw_182 tw_1 tw_183 (by decide +kernel) rfl rfl ⟨Nat.le_of_ble_eq_true rfl, Nat.le_of_ble_eq_true rfl⟩) hK hX hth hS rfl hl.1 rfl (Nat.le_of_ble_eq_true rfl) d_PS_run_5 ⟨Nat.le_of_ble_eq_true rfl, Nat.le_of_ble_eq_true rfl⟩ (fun E h9 => Or.inl ⟨h9.1, fun q9 => h9.2 (by omega)⟩) (Nat.le_of_ble_eq_true rfl) (Nat.le_of_ble_eq_true rfl) (fun u H locs hp hX hS => ?_)
  obtain ⟨hc_1, hu⟩ := hp
  rw [hu] at hX
  refine lv_aload_n hx hb d_PS_run_8 rfl (lv_at hl 0 rfl) ?_
  refine z_getr hx hb iw_PS hown hK hX 0 rfl rfl 0 (by decide) tw_144 (fun _ h => h) 1 rfl d_PS_run_9 ?_
  refine z_getiN (i := 0) (v := M 1 0) hx hb iw_Ro hown hK hX 1 rfl rfl 0 (by decide) tw_29 (fun _ h => h) rfl rfl rfl d_PS_run_12 (fun rg_2 => ?_)
  refine z_if_le (a := M 1 0) (tgt := 34) hx hb d_PS_run_15 (by decide) (by omega) (fun hb_3 => ?_) (fun hb_4 => ?_)
  · skip
    refine z_const hx hb d_PS_run_34 ?_
    refine zt_callS hF hT (k_chkS l hlt D ad cI sd M 0 (by omega)) (hK.cS 1 tw_254 tw_252 tw_1 tw_253 (by decide +kernel) rfl rfl ⟨Nat.le_of_ble_eq_true rfl, Nat.le_of_ble_eq_true rfl⟩) hK hX hth hS rfl hl.1 rfl (Nat.le_of_ble_eq_true rfl) d_PS_run_35 ⟨Nat.le_of_ble_eq_true rfl, Nat.le_of_ble_eq_true rfl⟩ (fun E h9 => Or.inr ⟨h9.1, by omega, fun q9 => h9.2 (by omega)⟩) (Nat.le_of_ble_eq_true rfl) (Nat.le_of_ble_eq_true rfl) (fun u H locs hp hX hS => ?_)
    obtain ⟨hc_5, hu⟩ := hp
    rw [hu] at hX
    exfalso
    omega
  · skip
    refine lv_aload_n hx hb d_PS_run_18 rfl (lv_at hl 0 rfl) ?_
    refine z_geti (i := 4) (v := M 0 4) hx hb iw_PS hown hK hX 0 rfl rfl 4 (by decide) tw_148 (fun _ h => h) rfl rfl rfl d_PS_run_19 (fun rg_6 => ?_)
    refine lv_iload_n hx hb d_PS_run_22 rfl (lv_at hl 1 rfl) ?_
    refine z_iadd hx hb d_PS_run_23 ?_
    refine z_sipush hx hb d_PS_run_24 (by decide) ?_
    refine z_icmp_gt (a := (M 0 4) + n) (b := 2000) (tgt := 34) hx hb d_PS_run_27 (by decide) (by omega) (fun hb_7 => ?_) (fun hb_8 => ?_)
    · skip
      refine z_const hx hb d_PS_run_34 ?_
      refine zt_callS hF hT (k_chkS l hlt D ad cI sd M 0 (by omega)) (hK.cS 1 tw_254 tw_252 tw_1 tw_253 (by decide +kernel) rfl rfl ⟨Nat.le_of_ble_eq_true rfl, Nat.le_of_ble_eq_true rfl⟩) hK hX hth hS rfl hl.1 rfl (Nat.le_of_ble_eq_true rfl) d_PS_run_35 ⟨Nat.le_of_ble_eq_true rfl, Nat.le_of_ble_eq_true rfl⟩ (fun E h9 => Or.inr ⟨h9.1, by omega, fun q9 => h9.2 (by omega)⟩) (Nat.le_of_ble_eq_true rfl) (Nat.le_of_ble_eq_true rfl) (fun u H locs hp hX hS => ?_)
      obtain ⟨hc_9, hu⟩ := hp
      rw [hu] at hX
      exfalso
      omega
    · skip
      refine z_const hx hb d_PS_run_30 ?_
      refine lv_goto (tgt := 35) hx hb d_PS_run_31 (by decide) ?_
      refine zt_callS hF hT (k_chkS l hlt D ad cI sd M 1 (by omega)) (hK.cS 1 tw_254 tw_252 tw_1 tw_253 (by decide +kernel) rfl rfl ⟨Nat.le_of_ble_eq_true rfl, Nat.le_of_ble_eq_true rfl⟩) hK hX hth hS rfl hl.1 rfl (Nat.le_of_ble_eq_true rfl) d_PS_run_35 ⟨Nat.le_of_ble_eq_true rfl, Nat.le_of_ble_eq_true rfl⟩ (fun E h9 => Or.inr ⟨h9.1, by omega, fun q9 => h9.2 (by omega)⟩) (Nat.le_of_ble_eq_true rfl) (Nat.le_of_ble_eq_true rfl) (fun u H locs hp hX hS => ?_)
      obtain ⟨hc_10, hu⟩ := hp
      rw [hu] at hX
      refine z_const hx hb d_PS_run_38 ?_
      refine lv_istore_n (lv' := [(2, .int (zI (0))), (0, .ref (ad 0)), (1, .int (zI (n)))]) hx hb d_PS_run_39 rfl hl (by decide) rfl (fun ls hl => ?_)
      have loop40 : ∀ (n40 : Nat) (k : Nat) (H : Heap) (locs : List Loc) (ls : Array Slot), ((k : Int) ≤ n ∧ xOK (xRun M k) ∧ xRun M k 0 4 = M 0 4 + k) → n.toNat - k < n40 → zX D (xL sd) ad cI (xRun M k) H → va_S (zA ad (xL sd)) s.heap H locs → lv_has ls 3 [(2, .int (zI ((k : Int)))), (0, .ref (ad 0)), (1, .int (zI (n)))] → W p l e { frames := 7, cells := 2, slots := 12, locals := 116 } s m ([.ref (ad 0), .int (zI (n))] : List Value).toArray below meth c H locs (0 + 1 + 1) (0 + 6 + 6) (vx_MQ below (zQi D (xL sd) ad cI (fun z u => ((1 ≤ n ∧ n ≤ 500) ∧ (0 < M 1 0 ∧ M 0 4 + n ≤ 2000)) ∧ z = (bm (xRun M n.toNat 0 5 - xRun M n.toNat 0 6)) ∧ u = xRun M n.toNat)) (zXc D (xL sd) ad cI M (fun E => (E = "java/lang/IllegalArgumentException" ∧ ¬ (1 ≤ n ∧ n ≤ 500)) ∨ (E = "java/lang/IllegalStateException" ∧ (1 ≤ n ∧ n ≤ 500) ∧ ¬ (0 < M 1 0 ∧ M 0 4 + n ≤ 2000)))) ([.ref (ad 0), .int (zI (n))] : List Value).toArray s 2 12 (zA ad (xL sd))) (F0 m 40 ls []) := by
        intro n40
        induction n40 with
        | zero => intro k H locs ls hI hn; exact absurd hn (Nat.not_lt_zero _)
        | succ n40 ih40 =>
          intro k H locs ls hI40 hn40 hX hS hl
          refine lv_iload_n hx hb d_PS_run_40 rfl (lv_at hl 0 rfl) ?_
          refine lv_iload_n hx hb d_PS_run_41 rfl (lv_at hl 2 rfl) ?_
          refine z_icmp_ge (a := (k : Int)) (b := n) (tgt := 55) hx hb d_PS_run_42 (by decide) (by omega) (fun hb_11 => ?_) (fun hb_12 => ?_)
          · skip
            refine lv_aload_n hx hb d_PS_run_55 rfl (lv_at hl 1 rfl) ?_
            refine z_geti (i := 5) (v := (xRun M k) 0 5) hx hb iw_PS hown hK hX 0 rfl rfl 5 (by decide) tw_149 (fun _ h => h) rfl rfl rfl d_PS_run_56 (fun rg_13 => ?_)
            refine lv_aload_n hx hb d_PS_run_59 rfl (lv_at hl 1 rfl) ?_
            refine z_geti (i := 6) (v := (xRun M k) 0 6) hx hb iw_PS hown hK hX 0 rfl rfl 6 (by decide) tw_150 (fun _ h => h) rfl rfl rfl d_PS_run_60 (fun rg_14 => ?_)
            refine z_isub hx hb d_PS_run_63 ?_
            refine z_bm ?_
            exact zt_iret (z := bm (((xRun M k) 0 5) - ((xRun M k) 0 6))) (post := (fun z u => ((1 ≤ n ∧ n ≤ 500) ∧ (0 < M 1 0 ∧ M 0 4 + n ≤ 2000)) ∧ z = (bm (xRun M n.toNat 0 5 - xRun M n.toNat 0 6)) ∧ u = xRun M n.toNat)) hx hb hr hlk hK hX hS (bm_rg _) ⟨by omega, by rw [show k = n.toNat by omega], by rw [show k = n.toNat by omega]⟩ (Nat.le_of_ble_eq_true rfl) (Nat.le_of_ble_eq_true rfl) d_PS_run_64
          · skip
            refine lv_aload_n hx hb d_PS_run_45 rfl (lv_at hl 1 rfl) ?_
            refine z_callVv hF (k_PS_minute l D ad cI sd (xRun M k)  hI40.2.1 (by omega)) (hK.cV 0 tw_346 tw_343 tw_1 tw_345 ts_9 (by decide +kernel) rfl rfl ⟨Nat.le_of_ble_eq_true rfl, Nat.le_of_ble_eq_true rfl⟩) hK hX hS rfl rfl rfl hl.1 rfl (Nat.le_of_ble_eq_true rfl) d_PS_run_46 ⟨Nat.le_of_ble_eq_true rfl, Nat.le_of_ble_eq_true rfl⟩ (fun u H locs hp hX hS => ?_)
            rw [hp] at hX
            refine z_iinc (lv' := [(2, .int (zI ((k : Int) + 1))), (0, .ref (ad 0)), (1, .int (zI (n)))]) hx hb d_PS_run_49 hl (k := 0) rfl (by decide) rfl (fun ls hl => ?_)
            refine lv_goto (tgt := 40) hx hb d_PS_run_52 (by decide) ?_
            exact ih40 (k + 1) _ _ _ ⟨by omega, (xMin_ok hI40.2.1 (by omega)).1, by show xMin (xRun M k) 0 4 = _; rw [(xMin_ok hI40.2.1 (by omega)).2]; omega⟩ (by omega) hX hS (lv_sub hl [0, 1, 2] rfl)
      exact loop40 _ 0 _ _ _ ⟨by omega, hO, by show M 0 4 = _; omega⟩ (Nat.lt_succ_self _) hX hS (lv_sub hl [0, 1, 2] rfl)
set_option maxHeartbeats 4000000 in
set_option maxRecDepth 100000 in
theorem k_inThen (l : Launch) (hlt : l.stackTraces = false) (D : va_G) (ad : Nat → Nat) (cI : Nat → ClassId) (sd : Int64) (M : zM) (r t : Int) (g0 : -2147483648 ≤ r ∧ r ≤ 2147483647) (g1 : -2147483648 ≤ t ∧ t ≤ 2147483647) (hO : xOK M) : zTi l y_PS_inThen (.code y_PS_inThen c_PS_inThen 5 (some .int)) { frames := 8, cells := 2, slots := 12, locals := 133 } D (xL sd) ad cI M [.ref (ad 0), .int (zI (r)), .int (zI (t))] (fun z u => (((0 ≤ r ∧ r < M 1 0) ∧ (0 ≤ t ∧ t < M 0 4))) ∧ z = (xCnt M r t (M 4 1).toNat) ∧ u = M) (fun E => (E = "java/lang/IllegalArgumentException" ∧ ¬ ((0 ≤ r ∧ r < M 1 0) ∧ (0 ≤ t ∧ t < M 0 4)))) 2 12 := by
  refine zt_of (cc := c_PS_inThen) (maxL := 5) (ret := some .int) (own := "PersonSeeds") (by decide) rfl rfl (Nat.le_of_ble_eq_true rfl) ?_
  intro p e s m below meth c ls hF hr hT hX hK hth hl
  obtain ⟨hx, hb, hml, hown, hlk⟩ := id hF
  have hS : va_S (zA ad (xL sd)) s.heap s.heap [] := va_S.rf
  have hl : lv_has ls 5 [(0, .ref (ad 0)), (1, .int (zI (r))), (2, .int (zI (t)))] := hl
  have o1 := hO.1
  have o2 := hO.2.1
  have o3 := hO.2.2.1
  have o4 := hO.2.2.2.1
  refine lv_aload_n hx hb d_PS_inThen_0 rfl (lv_at hl 0 rfl) ?_
  refine lv_iload_n hx hb d_PS_inThen_1 rfl (lv_at hl 1 rfl) ?_
  refine zt_callV hF hT (k_chkR l hlt D ad cI sd M r (by omega) (by omega)) (hK.cV 1 tw_296 tw_293 tw_1 tw_295 ts_4 (by decide +kernel) rfl rfl ⟨Nat.le_of_ble_eq_true rfl, Nat.le_of_ble_eq_true rfl⟩) hK hX hth hS rfl rfl rfl hl.1 rfl (Nat.le_of_ble_eq_true rfl) d_PS_inThen_2 ⟨Nat.le_of_ble_eq_true rfl, Nat.le_of_ble_eq_true rfl⟩ (fun E h9 => ⟨h9.1, fun q9 => h9.2 (by omega)⟩) (Nat.le_of_ble_eq_true rfl) (Nat.le_of_ble_eq_true rfl) (fun u H locs hp hX hS => ?_)
  obtain ⟨hc_1, hu⟩ := hp
  rw [hu] at hX
  refine lv_aload_n hx hb d_PS_inThen_5 rfl (lv_at hl 0 rfl) ?_
  refine lv_iload_n hx hb d_PS_inThen_6 rfl (lv_at hl 2 rfl) ?_
  refine zt_callV hF hT (k_chkO l hlt D ad cI sd M t (by omega) (by omega)) (hK.cV 1 tw_436 tw_433 tw_1 tw_435 ts_25 (by decide +kernel) rfl rfl ⟨Nat.le_of_ble_eq_true rfl, Nat.le_of_ble_eq_true rfl⟩) hK hX hth hS rfl rfl rfl hl.1 rfl (Nat.le_of_ble_eq_true rfl) d_PS_inThen_7 ⟨Nat.le_of_ble_eq_true rfl, Nat.le_of_ble_eq_true rfl⟩ (fun E h9 => ⟨h9.1, fun q9 => h9.2 (by omega)⟩) (Nat.le_of_ble_eq_true rfl) (Nat.le_of_ble_eq_true rfl) (fun u H locs hp hX hS => ?_)
  obtain ⟨hc_2, hu⟩ := hp
  rw [hu] at hX
  refine z_const hx hb d_PS_inThen_10 ?_
  refine lv_istore_n (lv' := [(3, .int (zI (0))), (0, .ref (ad 0)), (1, .int (zI (r))), (2, .int (zI (t)))]) hx hb d_PS_inThen_11 rfl hl (by decide) rfl (fun ls hl => ?_)
  refine z_const hx hb d_PS_inThen_12 ?_
  refine lv_istore (lv' := [(4, .int (zI (0))), (3, .int (zI (0))), (0, .ref (ad 0)), (1, .int (zI (r))), (2, .int (zI (t)))]) hx hb d_PS_inThen_13 hl (by decide) rfl (fun ls hl => ?_)
  have loop15 : ∀ (n15 : Nat) (k : Nat) (H : Heap) (locs : List Loc) (ls : Array Slot), (k : Int) ≤ M 4 1 → (M 4 1).toNat - k < n15 → zX D (xL sd) ad cI M H → va_S (zA ad (xL sd)) s.heap H locs → lv_has ls 5 [(4, .int (zI ((k : Int)))), (3, .int (zI (xCnt M r t k))), (0, .ref (ad 0)), (1, .int (zI (r))), (2, .int (zI (t)))] → W p l e { frames := 8, cells := 2, slots := 12, locals := 133 } s m ([.ref (ad 0), .int (zI (r)), .int (zI (t))] : List Value).toArray below meth c H locs (0 + 1 + 1) (0 + 6 + 6) (vx_MQ below (zQi D (xL sd) ad cI (fun z u => (((0 ≤ r ∧ r < M 1 0) ∧ (0 ≤ t ∧ t < M 0 4))) ∧ z = (xCnt M r t (M 4 1).toNat) ∧ u = M)) (zXc D (xL sd) ad cI M (fun E => (E = "java/lang/IllegalArgumentException" ∧ ¬ ((0 ≤ r ∧ r < M 1 0) ∧ (0 ≤ t ∧ t < M 0 4))))) ([.ref (ad 0), .int (zI (r)), .int (zI (t))] : List Value).toArray s 2 12 (zA ad (xL sd))) (F0 m 15 ls []) := by
    intro n15
    induction n15 with
    | zero => intro k H locs ls hI hn; exact absurd hn (Nat.not_lt_zero _)
    | succ n15 ih15 =>
      intro k H locs ls hI15 hn15 hX hS hl
      have cb := xCnt_b M r t k
      refine lv_iload hx hb d_PS_inThen_15 (lv_at hl 0 rfl) ?_
      refine lv_aload_n hx hb d_PS_inThen_17 rfl (lv_at hl 2 rfl) ?_
      refine z_getr hx hb iw_PS hown hK hX 0 rfl rfl 3 (by decide) tw_147 (fun _ h => h) 4 rfl d_PS_inThen_18 ?_
      refine z_getiN (i := 1) (v := M 4 1) hx hb iw_Pe hown hK hX 4 rfl rfl 1 (by decide) tw_110 (fun _ h => h) rfl rfl rfl d_PS_inThen_21 (fun rg_3 => ?_)
      refine z_icmp_ge (a := (k : Int)) (b := M 4 1) (tgt := 50) hx hb d_PS_inThen_24 (by decide) (by omega) (fun hb_4 => ?_) (fun hb_5 => ?_)
      · skip
        refine lv_iload_n hx hb d_PS_inThen_50 rfl (lv_at hl 1 rfl) ?_
        exact zt_iret (z := xCnt M r t k) (post := (fun z u => (((0 ≤ r ∧ r < M 1 0) ∧ (0 ≤ t ∧ t < M 0 4))) ∧ z = (xCnt M r t (M 4 1).toNat) ∧ u = M)) hx hb hr hlk hK hX hS (by omega) ⟨by omega, by rw [show k = (M 4 1).toNat by omega], rfl⟩ (Nat.le_of_ble_eq_true rfl) (Nat.le_of_ble_eq_true rfl) d_PS_inThen_51
      · skip
        refine lv_aload_n hx hb d_PS_inThen_27 rfl (lv_at hl 2 rfl) ?_
        refine z_getr hx hb iw_PS hown hK hX 0 rfl rfl 2 (by decide) tw_146 (fun _ h => h) 3 rfl d_PS_inThen_28 ?_
        refine lv_iload hx hb d_PS_inThen_31 (lv_at hl 0 rfl) ?_
        refine lv_iload_n hx hb d_PS_inThen_33 rfl (lv_at hl 4 rfl) ?_
        refine z_callVNi hF (k_Tr_placeBehind l D ad cI sd M (k : Int) t (by omega) (hO.2.2.2.2.2.2.1 _ (by omega) (by omega)) (by omega)) (hK.cN 2 tw_440 tw_437 tw_5 tw_439 ts_26 (by decide +kernel) rfl rfl ⟨Nat.le_of_ble_eq_true rfl, Nat.le_of_ble_eq_true rfl⟩) hK hX hS rfl rfl rfl hl.1 rfl (Nat.le_of_ble_eq_true rfl) d_PS_inThen_34 ⟨Nat.le_of_ble_eq_true rfl, Nat.le_of_ble_eq_true rfl⟩ (fun z u H locs rg_6 hp hX hS => ?_)
        obtain ⟨hz, hu⟩ := hp
        rw [hu] at hX
        have hz : z = (xBeh M (k : Int) t) := hz
        subst hz
        refine lv_iload_n hx hb d_PS_inThen_37 rfl (lv_at hl 3 rfl) ?_
        refine z_icmp_ne (a := xBeh M (k : Int) t) (b := r) (tgt := 44) hx hb d_PS_inThen_38 (by decide) (by omega) (fun hb_7 => ?_) (fun hb_8 => ?_)
        · skip
          refine z_iinc (lv' := [(4, .int (zI ((k : Int) + 1))), (3, .int (zI (xCnt M r t k))), (0, .ref (ad 0)), (1, .int (zI (r))), (2, .int (zI (t)))]) hx hb d_PS_inThen_44 hl (k := 0) rfl (by decide) rfl (fun ls hl => ?_)
          refine lv_goto (tgt := 15) hx hb d_PS_inThen_47 (by decide) ?_
          exact ih15 (k + 1) _ _ _ (by omega) (by omega) hX hS (by have e9 : xCnt M r t (k + 1) = xCnt M r t k := (by show xCnt M r t k + _ = _; first | rw [if_pos (by omega)] | (rw [if_neg (by omega)]; omega)); rw [e9]; exact lv_sub hl [0, 1, 2, 3, 4] rfl)
        · skip
          refine z_iinc (lv' := [(3, .int (zI ((xCnt M r t k) + 1))), (4, .int (zI ((k : Int)))), (0, .ref (ad 0)), (1, .int (zI (r))), (2, .int (zI (t)))]) hx hb d_PS_inThen_41 hl (k := 1) rfl (by decide) rfl (fun ls hl => ?_)
          refine z_iinc (lv' := [(4, .int (zI ((k : Int) + 1))), (3, .int (zI ((xCnt M r t k) + 1))), (0, .ref (ad 0)), (1, .int (zI (r))), (2, .int (zI (t)))]) hx hb d_PS_inThen_44 hl (k := 1) rfl (by decide) rfl (fun ls hl => ?_)
          refine lv_goto (tgt := 15) hx hb d_PS_inThen_47 (by decide) ?_
          exact ih15 (k + 1) _ _ _ (by omega) (by omega) hX hS (by have e9 : xCnt M r t (k + 1) = (xCnt M r t k) + 1 := (by show xCnt M r t k + _ = _; first | rw [if_pos (by omega)] | (rw [if_neg (by omega)]; omega)); rw [e9]; exact lv_sub hl [0, 1, 2, 3, 4] rfl)
  exact loop15 _ 0 _ _ _ (by omega) (Nat.lt_succ_self _) hX hS (lv_sub hl [0, 1, 2, 3, 4] rfl)
set_option maxHeartbeats 4000000 in
set_option maxRecDepth 100000 in
theorem k_entered (l : Launch) (D : va_G) (ad : Nat → Nat) (cI : Nat → ClassId) (sd : Int64) (M : zM) (on : Int) (h1 : -2147483648 ≤ on ∧ on ≤ 2147483647) : zMi l y_PS_entered (.code y_PS_entered c_PS_entered 2 (some .int)) { frames := 0, cells := 0, slots := 0, locals := 0 } D (xL sd) ad cI M [.ref (ad 0), .int (zI (on))] (fun z u => z = (if on = 0 then M 0 6 else M 0 5) ∧ u = M) := by
  refine z_of (cc := c_PS_entered) (maxL := 2) (ret := some .int) (own := "PersonSeeds") (by decide) rfl rfl (Nat.le_of_ble_eq_true rfl) ?_
  intro p e s m below meth c ls hF hr hX hK hl
  obtain ⟨hx, hb, hml, hown, hlk⟩ := id hF
  have hS : va_S (zA ad (xL sd)) s.heap s.heap [] := va_S.rf
  have hl : lv_has ls 2 [(0, .ref (ad 0)), (1, .int (zI (on)))] := hl
  refine lv_iload_n hx hb d_PS_entered_0 rfl (lv_at hl 1 rfl) ?_
  refine z_if_eq (a := on) (tgt := 11) hx hb d_PS_entered_1 (by decide) (by omega) (fun hb_1 => ?_) (fun hb_2 => ?_)
  · skip
    refine lv_aload_n hx hb d_PS_entered_11 rfl (lv_at hl 0 rfl) ?_
    refine z_geti (i := 6) (v := M 0 6) hx hb iw_PS hown hK hX 0 rfl rfl 6 (by decide) tw_150 (fun _ h => h) rfl rfl rfl d_PS_entered_12 (fun rg_3 => ?_)
    exact z_iret (z := M 0 6) (post := fun z u => z = (if on = 0 then M 0 6 else M 0 5) ∧ u = M) hx hb hr hlk hK hX hS (by omega) ⟨by first | rfl | omega | (split <;> omega) | (repeat' split) <;> first | rfl | omega | simp_all, rfl⟩ d_PS_entered_15
  · skip
    refine lv_aload_n hx hb d_PS_entered_4 rfl (lv_at hl 0 rfl) ?_
    refine z_geti (i := 5) (v := M 0 5) hx hb iw_PS hown hK hX 0 rfl rfl 5 (by decide) tw_149 (fun _ h => h) rfl rfl rfl d_PS_entered_5 (fun rg_4 => ?_)
    refine lv_goto (tgt := 15) hx hb d_PS_entered_8 (by decide) ?_
    exact z_iret (z := M 0 5) (post := fun z u => z = (if on = 0 then M 0 6 else M 0 5) ∧ u = M) hx hb hr hlk hK hX hS (by omega) ⟨by first | rfl | omega | (split <;> omega) | (repeat' split) <;> first | rfl | omega | simp_all, rfl⟩ d_PS_entered_15
end
