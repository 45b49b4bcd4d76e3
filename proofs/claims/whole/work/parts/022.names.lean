/-! methods: code and name; classes: fields in the order of the slots -/
abbrev c_PS_init : ByteArray := prog_1_method_1_code
abbrev y_PS_init : MethodName := { cls := "PersonSeeds", name := "<init>", desc := "(J)V" }
abbrev c_PS_arrives : ByteArray := prog_1_method_4_code
abbrev y_PS_arrives : MethodName := { cls := "PersonSeeds", name := "arrives", desc := "(II)I" }
abbrev c_PS_at : ByteArray := prog_1_method_8_code
abbrev y_PS_at : MethodName := { cls := "PersonSeeds", name := "at", desc := "(I)I" }
abbrev c_PS_checkBounds : ByteArray := prog_1_method_20_code
abbrev y_PS_checkBounds : MethodName := { cls := "PersonSeeds", name := "checkBounds", desc := "(III)V" }
abbrev c_PS_checkDifferent : ByteArray := prog_1_method_21_code
abbrev y_PS_checkDifferent : MethodName := { cls := "PersonSeeds", name := "checkDifferent", desc := "(II)V" }
abbrev c_PS_checkOver : ByteArray := prog_1_method_19_code
abbrev y_PS_checkOver : MethodName := { cls := "PersonSeeds", name := "checkOver", desc := "(I)V" }
abbrev c_PS_checkPerson : ByteArray := prog_1_method_18_code
abbrev y_PS_checkPerson : MethodName := { cls := "PersonSeeds", name := "checkPerson", desc := "(I)V" }
abbrev c_PS_checkRoom : ByteArray := prog_1_method_17_code
abbrev y_PS_checkRoom : MethodName := { cls := "PersonSeeds", name := "checkRoom", desc := "(I)V" }
abbrev c_PS_checkState : ByteArray := prog_1_method_22_code
abbrev y_PS_checkState : MethodName := { cls := "PersonSeeds", name := "checkState", desc := "(Z)V" }
abbrev c_PS_distance : ByteArray := prog_1_method_14_code
abbrev y_PS_distance : MethodName := { cls := "PersonSeeds", name := "distance", desc := "(II)I" }
abbrev c_PS_door : ByteArray := prog_1_method_3_code
abbrev y_PS_door : MethodName := { cls := "PersonSeeds", name := "door", desc := "(III)I" }
abbrev c_PS_draw : ByteArray := prog_1_method_5_code
abbrev y_PS_draw : MethodName := { cls := "PersonSeeds", name := "draw", desc := "(III)I" }
abbrev c_PS_entered : ByteArray := prog_1_method_16_code
abbrev y_PS_entered : MethodName := { cls := "PersonSeeds", name := "entered", desc := "(Z)I" }
abbrev c_PS_goOut : ByteArray := prog_1_method_26_code
abbrev y_PS_goOut : MethodName := { cls := "PersonSeeds", name := "goOut", desc := "(I)V" }
abbrev c_PS_in : ByteArray := prog_1_method_11_code
abbrev y_PS_in : MethodName := { cls := "PersonSeeds", name := "in", desc := "(II)I" }
abbrev c_PS_inThen : ByteArray := prog_1_method_12_code
abbrev y_PS_inThen : MethodName := { cls := "PersonSeeds", name := "inThen", desc := "(II)I" }
abbrev c_PS_met : ByteArray := prog_1_method_15_code
abbrev y_PS_met : MethodName := { cls := "PersonSeeds", name := "met", desc := "(II)I" }
abbrev c_PS_passMinute : ByteArray := prog_1_method_23_code
abbrev y_PS_passMinute : MethodName := { cls := "PersonSeeds", name := "passMinute", desc := "()V" }
abbrev c_PS_person : ByteArray := prog_1_method_7_code
abbrev y_PS_person : MethodName := { cls := "PersonSeeds", name := "person", desc := "(II)I" }
abbrev c_PS_room : ByteArray := prog_1_method_2_code
abbrev y_PS_room : MethodName := { cls := "PersonSeeds", name := "room", desc := "(I)I" }
abbrev c_PS_run : ByteArray := prog_1_method_6_code
abbrev y_PS_run : MethodName := { cls := "PersonSeeds", name := "run", desc := "(I)I" }
abbrev c_PS_through : ByteArray := prog_1_method_13_code
abbrev y_PS_through : MethodName := { cls := "PersonSeeds", name := "through", desc := "(IZ)I" }
abbrev c_PS_tryDoor : ByteArray := prog_1_method_27_code
abbrev y_PS_tryDoor : MethodName := { cls := "PersonSeeds", name := "tryDoor", desc := "(III)V" }
abbrev c_PS_tryEntrance : ByteArray := prog_1_method_25_code
abbrev y_PS_tryEntrance : MethodName := { cls := "PersonSeeds", name := "tryEntrance", desc := "(I)V" }
abbrev c_PS_tryStep : ByteArray := prog_1_method_24_code
abbrev y_PS_tryStep : MethodName := { cls := "PersonSeeds", name := "tryStep", desc := "(I)V" }
abbrev c_PS_waited : ByteArray := prog_1_method_10_code
abbrev y_PS_waited : MethodName := { cls := "PersonSeeds", name := "waited", desc := "(I)I" }
abbrev c_PS_was : ByteArray := prog_1_method_9_code
abbrev y_PS_was : MethodName := { cls := "PersonSeeds", name := "was", desc := "(II)I" }
abbrev c_Do_init : ByteArray := prog_2_method_1_code
abbrev y_Do_init : MethodName := { cls := "PersonSeeds$Doors", name := "<init>", desc := "()V" }
abbrev c_Do_add : ByteArray := prog_2_method_2_code
abbrev y_Do_add : MethodName := { cls := "PersonSeeds$Doors", name := "add", desc := "(III)I" }
abbrev c_Do_beginMinute : ByteArray := prog_2_method_7_code
abbrev y_Do_beginMinute : MethodName := { cls := "PersonSeeds$Doors", name := "beginMinute", desc := "()V" }
abbrev c_Do_behind : ByteArray := prog_2_method_5_code
abbrev y_Do_behind : MethodName := { cls := "PersonSeeds$Doors", name := "behind", desc := "(II)I" }
abbrev c_Do_isFree : ByteArray := prog_2_method_8_code
abbrev y_Do_isFree : MethodName := { cls := "PersonSeeds$Doors", name := "isFree", desc := "(I)Z" }
abbrev c_Do_pass : ByteArray := prog_2_method_9_code
abbrev y_Do_pass : MethodName := { cls := "PersonSeeds$Doors", name := "pass", desc := "(II)V" }
abbrev c_Do_shortenWays : ByteArray := prog_2_method_3_code
abbrev y_Do_shortenWays : MethodName := { cls := "PersonSeeds$Doors", name := "shortenWays", desc := "(II)V" }
abbrev c_Do_stepsBetween : ByteArray := prog_2_method_4_code
abbrev y_Do_stepsBetween : MethodName := { cls := "PersonSeeds$Doors", name := "stepsBetween", desc := "(II)I" }
abbrev c_Do_towards : ByteArray := prog_2_method_6_code
abbrev y_Do_towards : MethodName := { cls := "PersonSeeds$Doors", name := "towards", desc := "(II)I" }
abbrev c_Pe_init : ByteArray := prog_3_method_1_code
abbrev y_Pe_init : MethodName := { cls := "PersonSeeds$Persons", name := "<init>", desc := "(J)V" }
abbrev c_Pe_add : ByteArray := prog_3_method_2_code
abbrev y_Pe_add : MethodName := { cls := "PersonSeeds$Persons", name := "add", desc := "(II)V" }
abbrev c_Pe_drawn : ByteArray := prog_3_method_4_code
abbrev y_Pe_drawn : MethodName := { cls := "PersonSeeds$Persons", name := "drawn", desc := "(III)I" }
abbrev c_Pe_plan : ByteArray := prog_3_method_3_code
abbrev y_Pe_plan : MethodName := { cls := "PersonSeeds$Persons", name := "plan", desc := "(I)V" }
abbrev c_Pe_wants : ByteArray := prog_3_method_5_code
abbrev y_Pe_wants : MethodName := { cls := "PersonSeeds$Persons", name := "wants", desc := "(II)I" }
abbrev c_Ro_init : ByteArray := prog_4_method_1_code
abbrev y_Ro_init : MethodName := { cls := "PersonSeeds$Rooms", name := "<init>", desc := "()V" }
abbrev c_Ro_add : ByteArray := prog_4_method_2_code
abbrev y_Ro_add : MethodName := { cls := "PersonSeeds$Rooms", name := "add", desc := "(I)I" }
abbrev c_Ro_endMinute : ByteArray := prog_4_method_4_code
abbrev y_Ro_endMinute : MethodName := { cls := "PersonSeeds$Rooms", name := "endMinute", desc := "()V" }
abbrev c_Ro_hasSpace : ByteArray := prog_4_method_3_code
abbrev y_Ro_hasSpace : MethodName := { cls := "PersonSeeds$Rooms", name := "hasSpace", desc := "(I)Z" }
abbrev c_Tr_init : ByteArray := prog_5_method_1_code
abbrev y_Tr_init : MethodName := { cls := "PersonSeeds$Trails", name := "<init>", desc := "()V" }
abbrev c_Tr_add : ByteArray := prog_5_method_2_code
abbrev y_Tr_add : MethodName := { cls := "PersonSeeds$Trails", name := "add", desc := "(III)V" }
abbrev c_Tr_firstJoining : ByteArray := prog_5_method_5_code
abbrev y_Tr_firstJoining : MethodName := { cls := "PersonSeeds$Trails", name := "firstJoining", desc := "(II)I" }
abbrev c_Tr_placeBehind : ByteArray := prog_5_method_4_code
abbrev y_Tr_placeBehind : MethodName := { cls := "PersonSeeds$Trails", name := "placeBehind", desc := "(II)I" }
abbrev c_Tr_placeNow : ByteArray := prog_5_method_3_code
abbrev y_Tr_placeNow : MethodName := { cls := "PersonSeeds$Trails", name := "placeNow", desc := "(I)I" }
abbrev c_La_arrives : ByteArray := method_5_code
abbrev y_La_arrives : MethodName := { cls := "PersonSeedsLaw", name := "arrives", desc := "(LPersonSeeds;II[J)I" }
abbrev c_La_at : ByteArray := method_9_code
abbrev y_La_at : MethodName := { cls := "PersonSeedsLaw", name := "at", desc := "(LPersonSeeds;I[J)I" }
abbrev c_La_cell : ByteArray := method_2_code
abbrev y_La_cell : MethodName := { cls := "PersonSeedsLaw", name := "cell", desc := "([II)I" }
abbrev c_La_distance : ByteArray := method_15_code
abbrev y_La_distance : MethodName := { cls := "PersonSeedsLaw", name := "distance", desc := "(LPersonSeeds;II[J)I" }
abbrev c_La_door : ByteArray := method_4_code
abbrev y_La_door : MethodName := { cls := "PersonSeedsLaw", name := "door", desc := "(LPersonSeeds;III[J)I" }
abbrev c_La_draw : ByteArray := method_6_code
abbrev y_La_draw : MethodName := { cls := "PersonSeedsLaw", name := "draw", desc := "(LPersonSeeds;III[J)I" }
abbrev c_La_in : ByteArray := method_12_code
abbrev y_La_in : MethodName := { cls := "PersonSeedsLaw", name := "in", desc := "(LPersonSeeds;II[J)I" }
abbrev c_La_inThen : ByteArray := method_13_code
abbrev y_La_inThen : MethodName := { cls := "PersonSeedsLaw", name := "inThen", desc := "(LPersonSeeds;II[J)I" }
abbrev c_La_met : ByteArray := method_16_code
abbrev y_La_met : MethodName := { cls := "PersonSeedsLaw", name := "met", desc := "(LPersonSeeds;II[J)I" }
abbrev c_La_person : ByteArray := method_8_code
abbrev y_La_person : MethodName := { cls := "PersonSeedsLaw", name := "person", desc := "(LPersonSeeds;II[J)I" }
abbrev c_La_room : ByteArray := method_3_code
abbrev y_La_room : MethodName := { cls := "PersonSeedsLaw", name := "room", desc := "(LPersonSeeds;I[J)I" }
abbrev c_La_run : ByteArray := method_7_code
abbrev y_La_run : MethodName := { cls := "PersonSeedsLaw", name := "run", desc := "(LPersonSeeds;I[J)I" }
abbrev c_La_through : ByteArray := method_14_code
abbrev y_La_through : MethodName := { cls := "PersonSeedsLaw", name := "through", desc := "(LPersonSeeds;IZ[J)I" }
abbrev c_La_waited : ByteArray := method_11_code
abbrev y_La_waited : MethodName := { cls := "PersonSeedsLaw", name := "waited", desc := "(LPersonSeeds;I[J)I" }
abbrev c_La_was : ByteArray := method_10_code
abbrev y_La_was : MethodName := { cls := "PersonSeedsLaw", name := "was", desc := "(LPersonSeeds;II[J)I" }
abbrev c_Mo_init : ByteArray := prog_7_method_1_code
abbrev y_Mo_init : MethodName := { cls := "PersonSeedsModel", name := "<init>", desc := "(J)V" }
abbrev c_Mo_arrives : ByteArray := prog_7_method_10_code
abbrev y_Mo_arrives : MethodName := { cls := "PersonSeedsModel", name := "arrives", desc := "(II)I" }
abbrev c_Mo_at : ByteArray := prog_7_method_22_code
abbrev y_Mo_at : MethodName := { cls := "PersonSeedsModel", name := "at", desc := "(I)I" }
abbrev c_Mo_distance : ByteArray := prog_7_method_29_code
abbrev y_Mo_distance : MethodName := { cls := "PersonSeedsModel", name := "distance", desc := "(II)I" }
abbrev c_Mo_door : ByteArray := prog_7_method_8_code
abbrev y_Mo_door : MethodName := { cls := "PersonSeedsModel", name := "door", desc := "(III)I" }
abbrev c_Mo_doorOf : ByteArray := prog_7_method_16_code
abbrev y_Mo_doorOf : MethodName := { cls := "PersonSeedsModel", name := "doorOf", desc := "(II)I" }
abbrev c_Mo_draw : ByteArray := prog_7_method_12_code
abbrev y_Mo_draw : MethodName := { cls := "PersonSeedsModel", name := "draw", desc := "(III)I" }
abbrev c_Mo_drawn : ByteArray := prog_7_method_11_code
abbrev y_Mo_drawn : MethodName := { cls := "PersonSeedsModel", name := "drawn", desc := "(III)I" }
abbrev c_Mo_entered : ByteArray := prog_7_method_31_code
abbrev y_Mo_entered : MethodName := { cls := "PersonSeedsModel", name := "entered", desc := "(Z)I" }
abbrev c_Mo_goes : ByteArray := prog_7_method_15_code
abbrev y_Mo_goes : MethodName := { cls := "PersonSeedsModel", name := "goes", desc := "(II)Z" }
abbrev c_Mo_in : ByteArray := prog_7_method_26_code
abbrev y_Mo_in : MethodName := { cls := "PersonSeedsModel", name := "in", desc := "(II)I" }
abbrev c_Mo_inThen : ByteArray := prog_7_method_27_code
abbrev y_Mo_inThen : MethodName := { cls := "PersonSeedsModel", name := "inThen", desc := "(II)I" }
abbrev c_Mo_isOver : ByteArray := prog_7_method_23_code
abbrev y_Mo_isOver : MethodName := { cls := "PersonSeedsModel", name := "isOver", desc := "(I)Z" }
abbrev c_Mo_isPerson : ByteArray := prog_7_method_6_code
abbrev y_Mo_isPerson : MethodName := { cls := "PersonSeedsModel", name := "isPerson", desc := "(I)Z" }
abbrev c_Mo_isRoom : ByteArray := prog_7_method_5_code
abbrev y_Mo_isRoom : MethodName := { cls := "PersonSeedsModel", name := "isRoom", desc := "(I)Z" }
abbrev c_Mo_may : ByteArray := prog_7_method_3_code
abbrev y_Mo_may : MethodName := { cls := "PersonSeedsModel", name := "may", desc := "(ZZ)Z" }
abbrev c_Mo_met : ByteArray := prog_7_method_30_code
abbrev y_Mo_met : MethodName := { cls := "PersonSeedsModel", name := "met", desc := "(II)I" }
abbrev c_Mo_oneMinute : ByteArray := prog_7_method_19_code
abbrev y_Mo_oneMinute : MethodName := { cls := "PersonSeedsModel", name := "oneMinute", desc := "()V" }
abbrev c_Mo_person : ByteArray := prog_7_method_21_code
abbrev y_Mo_person : MethodName := { cls := "PersonSeedsModel", name := "person", desc := "(II)I" }
abbrev c_Mo_room : ByteArray := prog_7_method_7_code
abbrev y_Mo_room : MethodName := { cls := "PersonSeedsModel", name := "room", desc := "(I)I" }
abbrev c_Mo_run : ByteArray := prog_7_method_20_code
abbrev y_Mo_run : MethodName := { cls := "PersonSeedsModel", name := "run", desc := "(I)I" }
abbrev c_Mo_shorten : ByteArray := prog_7_method_9_code
abbrev y_Mo_shorten : MethodName := { cls := "PersonSeedsModel", name := "shorten", desc := "(II)V" }
abbrev c_Mo_step : ByteArray := prog_7_method_18_code
abbrev y_Mo_step : MethodName := { cls := "PersonSeedsModel", name := "step", desc := "(I)V" }
abbrev c_Mo_tell : ByteArray := prog_7_method_13_code
abbrev y_Mo_tell : MethodName := { cls := "PersonSeedsModel", name := "tell", desc := "(II)I" }
abbrev c_Mo_through : ByteArray := prog_7_method_28_code
abbrev y_Mo_through : MethodName := { cls := "PersonSeedsModel", name := "through", desc := "(IZ)I" }
abbrev c_Mo_throughDoor : ByteArray := prog_7_method_17_code
abbrev y_Mo_throughDoor : MethodName := { cls := "PersonSeedsModel", name := "throughDoor", desc := "(II)V" }
abbrev c_Mo_thrown : ByteArray := prog_7_method_2_code
abbrev y_Mo_thrown : MethodName := { cls := "PersonSeedsModel", name := "thrown", desc := "()I" }
abbrev c_Mo_waited : ByteArray := prog_7_method_25_code
abbrev y_Mo_waited : MethodName := { cls := "PersonSeedsModel", name := "waited", desc := "(I)I" }
abbrev c_Mo_wants : ByteArray := prog_7_method_14_code
abbrev y_Mo_wants : MethodName := { cls := "PersonSeedsModel", name := "wants", desc := "(I)I" }
abbrev c_Mo_was : ByteArray := prog_7_method_24_code
abbrev y_Mo_was : MethodName := { cls := "PersonSeedsModel", name := "was", desc := "(II)I" }
abbrev c_Mo_within : ByteArray := prog_7_method_4_code
abbrev y_Mo_within : MethodName := { cls := "PersonSeedsModel", name := "within", desc := "(JJJ)Z" }
abbrev c_Ar_fill : ByteArray := prog_15_method_103_code
abbrev y_Ar_fill : MethodName := { cls := "java/util/Arrays", name := "fill", desc := "([II)V" }
def T_PS : u_T := fun k => match k with
  | 0 => ("PersonSeeds", "rooms", "LPersonSeeds$Rooms;", true)
  | 1 => ("PersonSeeds", "doors", "LPersonSeeds$Doors;", true)
  | 2 => ("PersonSeeds", "trails", "LPersonSeeds$Trails;", true)
  | 3 => ("PersonSeeds", "persons", "LPersonSeeds$Persons;", true)
  | 4 => ("PersonSeeds", "minute", "I", false)
  | 5 => ("PersonSeeds", "cameIn", "I", false)
  | _ => ("PersonSeeds", "wentOut", "I", false)
def ty_PS : Nat → FieldType := fun k => match k with
  | 0 => .object "PersonSeeds$Rooms"
  | 1 => .object "PersonSeeds$Doors"
  | 2 => .object "PersonSeeds$Trails"
  | 3 => .object "PersonSeeds$Persons"
  | 4 => .int
  | 5 => .int
  | _ => .int
theorem n_PS : ∀ a, a < 7 → ∀ b, b < 7 → a ≠ b → (T_PS a).2.1 ≠ (T_PS b).2.1 := by decide +kernel
theorem tyo_PS : ∀ k, k < 7 → parseFieldDescriptor (T_PS k).2.2.1 = some (ty_PS k) := by decide +kernel
theorem iw_PS : ∀ w ∈ u_ws "PersonSeeds" T_PS 7, w ∈ lw_tbl ∧ goodWord w = true := by decide +kernel
def T_Ro : u_T := fun k => match k with
  | 0 => ("PersonSeeds$Rooms", "count", "I", false)
  | 1 => ("PersonSeeds$Rooms", "cells", "[I", true)
  | 2 => ("PersonSeeds$Rooms", "inside", "[I", true)
  | 3 => ("PersonSeeds$Rooms", "most", "[I", true)
  | _ => ("PersonSeeds$Rooms", "fullEnds", "[I", true)
def ty_Ro : Nat → FieldType := fun k => match k with
  | 0 => .int
  | 1 => .array .int
  | 2 => .array .int
  | 3 => .array .int
  | _ => .array .int
theorem n_Ro : ∀ a, a < 5 → ∀ b, b < 5 → a ≠ b → (T_Ro a).2.1 ≠ (T_Ro b).2.1 := by decide +kernel
theorem tyo_Ro : ∀ k, k < 5 → parseFieldDescriptor (T_Ro k).2.2.1 = some (ty_Ro k) := by decide +kernel
theorem iw_Ro : ∀ w ∈ u_ws "PersonSeeds$Rooms" T_Ro 5, w ∈ lw_tbl ∧ goodWord w = true := by decide +kernel
def T_Do : u_T := fun k => match k with
  | 0 => ("PersonSeeds$Doors", "count", "I", false)
  | 1 => ("PersonSeeds$Doors", "near", "[I", true)
  | 2 => ("PersonSeeds$Doors", "far", "[I", true)
  | 3 => ("PersonSeeds$Doors", "width", "[I", true)
  | 4 => ("PersonSeeds$Doors", "wentOn", "[I", true)
  | 5 => ("PersonSeeds$Doors", "wentBack", "[I", true)
  | 6 => ("PersonSeeds$Doors", "wentNow", "[I", true)
  | _ => ("PersonSeeds$Doors", "steps", "[I", true)
def ty_Do : Nat → FieldType := fun k => match k with
  | 0 => .int
  | 1 => .array .int
  | 2 => .array .int
  | 3 => .array .int
  | 4 => .array .int
  | 5 => .array .int
  | 6 => .array .int
  | _ => .array .int
theorem n_Do : ∀ a, a < 8 → ∀ b, b < 8 → a ≠ b → (T_Do a).2.1 ≠ (T_Do b).2.1 := by decide +kernel
theorem tyo_Do : ∀ k, k < 8 → parseFieldDescriptor (T_Do k).2.2.1 = some (ty_Do k) := by decide +kernel
theorem iw_Do : ∀ w ∈ u_ws "PersonSeeds$Doors" T_Do 8, w ∈ lw_tbl ∧ goodWord w = true := by decide +kernel
def T_Tr : u_T := fun k => match k with
  | 0 => ("PersonSeeds$Trails", "moves", "[I", true)
  | 1 => ("PersonSeeds$Trails", "minutes", "[I", true)
  | _ => ("PersonSeeds$Trails", "places", "[I", true)
def ty_Tr : Nat → FieldType := fun k => match k with
  | 0 => .array .int
  | 1 => .array .int
  | _ => .array .int
theorem n_Tr : ∀ a, a < 3 → ∀ b, b < 3 → a ≠ b → (T_Tr a).2.1 ≠ (T_Tr b).2.1 := by decide +kernel
theorem tyo_Tr : ∀ k, k < 3 → parseFieldDescriptor (T_Tr k).2.2.1 = some (ty_Tr k) := by decide +kernel
theorem iw_Tr : ∀ w ∈ u_ws "PersonSeeds$Trails" T_Tr 3, w ∈ lw_tbl ∧ goodWord w = true := by decide +kernel
def T_Pe : u_T := fun k => match k with
  | 0 => ("PersonSeeds$Persons", "seed", "J", true)
  | 1 => ("PersonSeeds$Persons", "count", "I", false)
  | 2 => ("PersonSeeds$Persons", "comes", "[I", true)
  | 3 => ("PersonSeeds$Persons", "desk", "[I", true)
  | 4 => ("PersonSeeds$Persons", "eatsFrom", "[I", true)
  | 5 => ("PersonSeeds$Persons", "eatsUntil", "[I", true)
  | 6 => ("PersonSeeds$Persons", "eatsIn", "[I", true)
  | 7 => ("PersonSeeds$Persons", "leaves", "[I", true)
  | _ => ("PersonSeeds$Persons", "waits", "[I", true)
def ty_Pe : Nat → FieldType := fun k => match k with
  | 0 => .long
  | 1 => .int
  | 2 => .array .int
  | 3 => .array .int
  | 4 => .array .int
  | 5 => .array .int
  | 6 => .array .int
  | 7 => .array .int
  | _ => .array .int
theorem n_Pe : ∀ a, a < 9 → ∀ b, b < 9 → a ≠ b → (T_Pe a).2.1 ≠ (T_Pe b).2.1 := by decide +kernel
theorem tyo_Pe : ∀ k, k < 9 → parseFieldDescriptor (T_Pe k).2.2.1 = some (ty_Pe k) := by decide +kernel
theorem iw_Pe : ∀ w ∈ u_ws "PersonSeeds$Persons" T_Pe 9, w ∈ lw_tbl ∧ goodWord w = true := by decide +kernel
def T_Mo : u_T := fun k => match k with
  | 0 => ("PersonSeedsModel", "seed", "J", true)
  | 1 => ("PersonSeedsModel", "fault", "I", false)
  | 2 => ("PersonSeedsModel", "minute", "I", false)
  | 3 => ("PersonSeedsModel", "rooms", "I", false)
  | 4 => ("PersonSeedsModel", "cells", "[I", true)
  | 5 => ("PersonSeedsModel", "there", "[I", true)
  | 6 => ("PersonSeedsModel", "most", "[I", true)
  | 7 => ("PersonSeedsModel", "full", "[I", true)
  | 8 => ("PersonSeedsModel", "far", "[I", true)
  | 9 => ("PersonSeedsModel", "doors", "I", false)
  | 10 => ("PersonSeedsModel", "from", "[I", true)
  | 11 => ("PersonSeedsModel", "to", "[I", true)
  | 12 => ("PersonSeedsModel", "width", "[I", true)
  | 13 => ("PersonSeedsModel", "gone", "[I", true)
  | 14 => ("PersonSeedsModel", "onward", "[I", true)
  | 15 => ("PersonSeedsModel", "backward", "[I", true)
  | 16 => ("PersonSeedsModel", "persons", "I", false)
  | 17 => ("PersonSeedsModel", "comes", "[I", true)
  | 18 => ("PersonSeedsModel", "place", "[I", true)
  | 19 => ("PersonSeedsModel", "waits", "[I", true)
  | 20 => ("PersonSeedsModel", "past", "[B", true)
  | 21 => ("PersonSeedsModel", "cameIn", "I", false)
  | _ => ("PersonSeedsModel", "wentOut", "I", false)
def ty_Mo : Nat → FieldType := fun k => match k with
  | 0 => .long
  | 1 => .int
  | 2 => .int
  | 3 => .int
  | 4 => .array .int
  | 5 => .array .int
  | 6 => .array .int
  | 7 => .array .int
  | 8 => .array .int
  | 9 => .int
  | 10 => .array .int
  | 11 => .array .int
  | 12 => .array .int
  | 13 => .array .int
  | 14 => .array .int
  | 15 => .array .int
  | 16 => .int
  | 17 => .array .int
  | 18 => .array .int
  | 19 => .array .int
  | 20 => .array .byte
  | 21 => .int
  | _ => .int
theorem n_Mo : ∀ a, a < 23 → ∀ b, b < 23 → a ≠ b → (T_Mo a).2.1 ≠ (T_Mo b).2.1 := by decide +kernel
theorem tyo_Mo : ∀ k, k < 23 → parseFieldDescriptor (T_Mo k).2.2.1 = some (ty_Mo k) := by decide +kernel
theorem iw_Mo : ∀ w ∈ u_ws "PersonSeedsModel" T_Mo 23, w ∈ lw_tbl ∧ goodWord w = true := by decide +kernel
abbrev zCl : List vw_C := [("PersonSeeds", T_PS, 7), ("PersonSeeds$Rooms", T_Ro, 5), ("PersonSeeds$Doors", T_Do, 8), ("PersonSeeds$Trails", T_Tr, 3), ("PersonSeeds$Persons", T_Pe, 9), ("PersonSeedsModel", T_Mo, 23)]
