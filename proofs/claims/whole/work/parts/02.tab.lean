/-! classes (0..12 have objects; 13 Integer, 14 Math, 15 the law), their fields, the methods by number -/
def kC : Nat → String
  | 0 => "PrayerMatsFace$Chance"
  | 1 => "PrayerMatsFace$Kneeling"
  | 2 => "PrayerMatsFace$Lots"
  | 3 => "PrayerMatsFace$Meeting"
  | 4 => "PrayerMatsFace$Mind"
  | 5 => "PrayerMatsFace$Pairs"
  | 6 => "PrayerMatsFace$Past"
  | 7 => "PrayerMatsFace$Quarter"
  | 8 => "PrayerMatsFace$Row"
  | 9 => "PrayerMatsFace$Standing"
  | 10 => "PrayerMatsFace$Ways"
  | 11 => "PrayerMatsFace"
  | 12 => "PrayerMatsFaceModel"
  | 13 => "java/lang/Integer"
  | 14 => "java/lang/Math"
  | 15 => "PrayerMatsFaceLaw"
  | _ => ""
def kT0 : u_T := fun k => match k with
  | 0 => ("PrayerMatsFace$Chance", "now", "LPrayerMatsFace$Meeting;", true)
  | 1 => ("PrayerMatsFace$Chance", "kneeling", "LPrayerMatsFace$Kneeling;", true)
  | 2 => ("PrayerMatsFace$Chance", "weights", "[J", true)
  | 3 => ("PrayerMatsFace$Chance", "weightsNext", "[J", true)
  | _ => ("PrayerMatsFace$Chance", "allWeight", "J", false)
def kY0 : Nat → FieldType := fun k => match k with
  | 0 => .object "PrayerMatsFace$Meeting"
  | 1 => .object "PrayerMatsFace$Kneeling"
  | 2 => .array .long
  | 3 => .array .long
  | _ => .long
def kT1 : u_T := fun k => match k with
  | 0 => ("PrayerMatsFace$Kneeling", "changeByHour", "[I", true)
  | 1 => ("PrayerMatsFace$Kneeling", "hoursOfOther", "I", false)
  | 2 => ("PrayerMatsFace$Kneeling", "softOfBoth", "I", false)
  | 3 => ("PrayerMatsFace$Kneeling", "soreOfOne", "I", false)
  | _ => ("PrayerMatsFace$Kneeling", "soreOfOther", "I", false)
def kY1 : Nat → FieldType := fun k => match k with
  | 0 => .array .int
  | 1 => .int
  | 2 => .int
  | 3 => .int
  | _ => .int
def kT2 : u_T := fun k => match k with
  | 0 => ("PrayerMatsFace$Lots", "now", "LPrayerMatsFace$Meeting;", true)
  | 1 => ("PrayerMatsFace$Lots", "draft", "LPrayerMatsFace$Meeting;", true)
  | 2 => ("PrayerMatsFace$Lots", "kneeling", "LPrayerMatsFace$Kneeling;", true)
  | 3 => ("PrayerMatsFace$Lots", "seed", "I", false)
  | 4 => ("PrayerMatsFace$Lots", "quarrelsTogether", "I", false)
  | _ => ("PrayerMatsFace$Lots", "twosWithout", "I", false)
def kY2 : Nat → FieldType := fun k => match k with
  | 0 => .object "PrayerMatsFace$Meeting"
  | 1 => .object "PrayerMatsFace$Meeting"
  | 2 => .object "PrayerMatsFace$Kneeling"
  | 3 => .int
  | 4 => .int
  | _ => .int
def kT3 : u_T := fun k => match k with
  | 0 => ("PrayerMatsFace$Meeting", "kinds", "[I", true)
  | 1 => ("PrayerMatsFace$Meeting", "figures", "[I", true)
  | 2 => ("PrayerMatsFace$Meeting", "hours", "[I", true)
  | 3 => ("PrayerMatsFace$Meeting", "mates", "[I", true)
  | 4 => ("PrayerMatsFace$Meeting", "quarrelOf", "[I", true)
  | 5 => ("PrayerMatsFace$Meeting", "number", "I", false)
  | _ => ("PrayerMatsFace$Meeting", "day", "I", false)
def kY3 : Nat → FieldType := fun k => match k with
  | 0 => .array .int
  | 1 => .array .int
  | 2 => .array .int
  | 3 => .array .int
  | 4 => .array .int
  | 5 => .int
  | _ => .int
def kT4 : u_T := fun k => match k with
  | 0 => ("PrayerMatsFace$Mind", "now", "LPrayerMatsFace$Meeting;", true)
  | 1 => ("PrayerMatsFace$Mind", "draft", "LPrayerMatsFace$Meeting;", true)
  | _ => ("PrayerMatsFace$Mind", "kneeling", "LPrayerMatsFace$Kneeling;", true)
def kY4 : Nat → FieldType := fun k => match k with
  | 0 => .object "PrayerMatsFace$Meeting"
  | 1 => .object "PrayerMatsFace$Meeting"
  | _ => .object "PrayerMatsFace$Kneeling"
def kT5 : u_T := fun k => match k with
  | 0 => ("PrayerMatsFace$Pairs", "now", "LPrayerMatsFace$Meeting;", true)
  | 1 => ("PrayerMatsFace$Pairs", "draft", "LPrayerMatsFace$Meeting;", true)
  | 2 => ("PrayerMatsFace$Pairs", "kneeling", "LPrayerMatsFace$Kneeling;", true)
  | 3 => ("PrayerMatsFace$Pairs", "waysOfAll", "LPrayerMatsFace$Ways;", true)
  | _ => ("PrayerMatsFace$Pairs", "changeOnOneMat", "[I", true)
def kY5 : Nat → FieldType := fun k => match k with
  | 0 => .object "PrayerMatsFace$Meeting"
  | 1 => .object "PrayerMatsFace$Meeting"
  | 2 => .object "PrayerMatsFace$Kneeling"
  | 3 => .object "PrayerMatsFace$Ways"
  | _ => .array .int
def kT6 : u_T := fun k => match k with
  | 0 => ("PrayerMatsFace$Past", "before", "[LPrayerMatsFace$Meeting;", true)
  | 1 => ("PrayerMatsFace$Past", "next", "I", false)
  | _ => ("PrayerMatsFace$Past", "number", "I", false)
def kY6 : Nat → FieldType := fun k => match k with
  | 0 => .array (.object "PrayerMatsFace$Meeting")
  | 1 => .int
  | _ => .int
def kT7 : u_T := fun k => match k with
  | 0 => ("PrayerMatsFace$Quarter", "kneeling", "LPrayerMatsFace$Kneeling;", true)
  | 1 => ("PrayerMatsFace$Quarter", "letters", "[I", true)
  | _ => ("PrayerMatsFace$Quarter", "number", "I", false)
def kY7 : Nat → FieldType := fun k => match k with
  | 0 => .object "PrayerMatsFace$Kneeling"
  | 1 => .array .int
  | _ => .int
def kT8 : u_T := fun k => match k with
  | 0 => ("PrayerMatsFace$Row", "numbers", "[I", true)
  | _ => ("PrayerMatsFace$Row", "number", "I", false)
def kY8 : Nat → FieldType := fun k => match k with
  | 0 => .array .int
  | _ => .int
def kT9 : u_T := fun k => match k with
  | _ => ("PrayerMatsFace$Standing", "now", "LPrayerMatsFace$Meeting;", true)
def kY9 : Nat → FieldType := fun k => match k with
  | _ => .object "PrayerMatsFace$Meeting"
def kT10 : u_T := fun k => match k with
  | 0 => ("PrayerMatsFace$Ways", "matesByWay", "[I", true)
  | 1 => ("PrayerMatsFace$Ways", "putSoFar", "[I", true)
  | 2 => ("PrayerMatsFace$Ways", "people", "I", false)
  | _ => ("PrayerMatsFace$Ways", "number", "I", false)
def kY10 : Nat → FieldType := fun k => match k with
  | 0 => .array .int
  | 1 => .array .int
  | 2 => .int
  | _ => .int
def kT11 : u_T := fun k => match k with
  | 0 => ("PrayerMatsFace", "now", "LPrayerMatsFace$Meeting;", true)
  | 1 => ("PrayerMatsFace", "draft", "LPrayerMatsFace$Meeting;", true)
  | 2 => ("PrayerMatsFace", "pictured", "LPrayerMatsFace$Meeting;", true)
  | 3 => ("PrayerMatsFace", "hasImage", "Z", false)
  | 4 => ("PrayerMatsFace", "kneeling", "LPrayerMatsFace$Kneeling;", true)
  | 5 => ("PrayerMatsFace", "standing", "LPrayerMatsFace$Standing;", true)
  | 6 => ("PrayerMatsFace", "mind", "LPrayerMatsFace$Mind;", true)
  | 7 => ("PrayerMatsFace", "pairs", "LPrayerMatsFace$Pairs;", true)
  | 8 => ("PrayerMatsFace", "lotsDrawn", "LPrayerMatsFace$Lots;", true)
  | 9 => ("PrayerMatsFace", "chance", "LPrayerMatsFace$Chance;", true)
  | 10 => ("PrayerMatsFace", "text", "LPrayerMatsFace$Quarter;", true)
  | 11 => ("PrayerMatsFace", "told", "LPrayerMatsFace$Row;", true)
  | 12 => ("PrayerMatsFace", "past", "LPrayerMatsFace$Past;", true)
  | _ => ("PrayerMatsFace", "refusals", "[I", true)
def kY11 : Nat → FieldType := fun k => match k with
  | 0 => .object "PrayerMatsFace$Meeting"
  | 1 => .object "PrayerMatsFace$Meeting"
  | 2 => .object "PrayerMatsFace$Meeting"
  | 3 => .boolean
  | 4 => .object "PrayerMatsFace$Kneeling"
  | 5 => .object "PrayerMatsFace$Standing"
  | 6 => .object "PrayerMatsFace$Mind"
  | 7 => .object "PrayerMatsFace$Pairs"
  | 8 => .object "PrayerMatsFace$Lots"
  | 9 => .object "PrayerMatsFace$Chance"
  | 10 => .object "PrayerMatsFace$Quarter"
  | 11 => .object "PrayerMatsFace$Row"
  | 12 => .object "PrayerMatsFace$Past"
  | _ => .array .int
def kT12 : u_T := fun k => match k with
  | 0 => ("PrayerMatsFaceModel", "people", "I", false)
  | 1 => ("PrayerMatsFaceModel", "kinds", "[I", true)
  | 2 => ("PrayerMatsFaceModel", "figures", "[I", true)
  | 3 => ("PrayerMatsFaceModel", "hours0", "[I", true)
  | 4 => ("PrayerMatsFaceModel", "mates", "[I", true)
  | 5 => ("PrayerMatsFaceModel", "quarrel", "[I", true)
  | 6 => ("PrayerMatsFaceModel", "today", "I", false)
  | 7 => ("PrayerMatsFaceModel", "thrown", "I", false)
  | 8 => ("PrayerMatsFaceModel", "refusals", "[I", true)
  | 9 => ("PrayerMatsFaceModel", "letters", "[I", true)
  | 10 => ("PrayerMatsFaceModel", "letterMany", "I", false)
  | 11 => ("PrayerMatsFaceModel", "at", "I", false)
  | 12 => ("PrayerMatsFaceModel", "isBad", "Z", false)
  | 13 => ("PrayerMatsFaceModel", "statements", "I", false)
  | 14 => ("PrayerMatsFaceModel", "placeIn", "[I", true)
  | 15 => ("PrayerMatsFaceModel", "letterOf", "[I", true)
  | 16 => ("PrayerMatsFaceModel", "told", "[I", true)
  | 17 => ("PrayerMatsFaceModel", "kept", "[I", true)
  | 18 => ("PrayerMatsFaceModel", "imaged", "[I", true)
  | 19 => ("PrayerMatsFaceModel", "hasImage", "Z", false)
  | 20 => ("PrayerMatsFaceModel", "place0", "I", false)
  | 21 => ("PrayerMatsFaceModel", "isTaking", "Z", false)
  | 22 => ("PrayerMatsFaceModel", "keptIn", "[I", false)
  | 23 => ("PrayerMatsFaceModel", "turns0", "[I", true)
  | 24 => ("PrayerMatsFaceModel", "turnOf", "[I", true)
  | 25 => ("PrayerMatsFaceModel", "turned", "I", false)
  | 26 => ("PrayerMatsFaceModel", "paired", "[I", true)
  | 27 => ("PrayerMatsFaceModel", "pairedMany", "I", false)
  | 28 => ("PrayerMatsFaceModel", "pairedFor", "I", false)
  | 29 => ("PrayerMatsFaceModel", "trial", "[I", true)
  | 30 => ("PrayerMatsFaceModel", "row", "[I", true)
  | 31 => ("PrayerMatsFaceModel", "rowMany", "I", false)
  | _ => ("PrayerMatsFaceModel", "seed", "I", false)
def kY12 : Nat → FieldType := fun k => match k with
  | 0 => .int
  | 1 => .array .int
  | 2 => .array .int
  | 3 => .array .int
  | 4 => .array .int
  | 5 => .array .int
  | 6 => .int
  | 7 => .int
  | 8 => .array .int
  | 9 => .array .int
  | 10 => .int
  | 11 => .int
  | 12 => .boolean
  | 13 => .int
  | 14 => .array .int
  | 15 => .array .int
  | 16 => .array .int
  | 17 => .array .int
  | 18 => .array .int
  | 19 => .boolean
  | 20 => .int
  | 21 => .boolean
  | 22 => .array .int
  | 23 => .array .int
  | 24 => .array .int
  | 25 => .int
  | 26 => .array .int
  | 27 => .int
  | 28 => .int
  | 29 => .array .int
  | 30 => .array .int
  | 31 => .int
  | _ => .int
def kT : Nat → u_T
  | 0 => kT0
  | 1 => kT1
  | 2 => kT2
  | 3 => kT3
  | 4 => kT4
  | 5 => kT5
  | 6 => kT6
  | 7 => kT7
  | 8 => kT8
  | 9 => kT9
  | 10 => kT10
  | 11 => kT11
  | _ => kT12
def kY : Nat → Nat → FieldType
  | 0 => kY0
  | 1 => kY1
  | 2 => kY2
  | 3 => kY3
  | 4 => kY4
  | 5 => kY5
  | 6 => kY6
  | 7 => kY7
  | 8 => kY8
  | 9 => kY9
  | 10 => kY10
  | 11 => kY11
  | _ => kY12
def kN : Nat → Nat
  | 0 => 5
  | 1 => 5
  | 2 => 6
  | 3 => 7
  | 4 => 3
  | 5 => 5
  | 6 => 3
  | 7 => 3
  | 8 => 2
  | 9 => 1
  | 10 => 4
  | 11 => 14
  | _ => 33
/-- what a field holds: 0 an int, 1 a boolean, 2 a long, 3 a reference -/
def fty (ci k : Nat) : Nat := match kY ci k with | .int => 0 | .boolean => 1 | .long => 2 | _ => 3
abbrev classes : List vw_C := (List.range 13).map (fun i => (kC i, kT i, kN i))
def mtab : List (MethodName × ByteArray × Nat × Option FieldType × Nat × Nat × Nat) := [
  (⟨"PrayerMatsFace$Chance", "<init>", "(LPrayerMatsFace$Meeting;LPrayerMatsFace$Kneeling;)V"⟩, prog_2_method_1_code, 3, none, 0, 2, 2),
  (⟨"PrayerMatsFace$Chance", "weigh", "(IIII)V"⟩, prog_2_method_2_code, 6, none, 0, 0, 4),
  (⟨"PrayerMatsFace$Chance", "allWeight", "()J"⟩, prog_2_method_3_code, 1, (some .long), 0, 0, 0),
  (⟨"PrayerMatsFace$Chance", "weightUpTo", "(I)J"⟩, prog_2_method_4_code, 5, (some .long), 0, 0, 1),
  (⟨"PrayerMatsFace$Chance", "weighDay", "(II)V"⟩, prog_2_method_5_code, 4, none, 0, 0, 2),
  (⟨"PrayerMatsFace$Chance", "addWeight", "([JIJ)V"⟩, prog_2_method_6_code, 4, none, 0, 1, 3),
  (⟨"PrayerMatsFace$Kneeling", "<init>", "()V"⟩, prog_3_method_1_code, 1, none, 1, 2, 0),
  (⟨"PrayerMatsFace$Kneeling", "take", "(LPrayerMatsFace$Meeting;II)V"⟩, prog_3_method_2_code, 4, none, 1, 0, 3),
  (⟨"PrayerMatsFace$Kneeling", "letOneComeAt", "(I)V"⟩, prog_3_method_3_code, 3, none, 1, 0, 1),
  (⟨"PrayerMatsFace$Kneeling", "change", "(ZZ)I"⟩, prog_3_method_4_code, 3, (some .int), 1, 0, 2),
  (⟨"PrayerMatsFace$Kneeling", "afterHour", "(II)I"⟩, prog_3_method_5_code, 3, (some .int), 1, 0, 2),
  (⟨"PrayerMatsFace$Kneeling", "afterDay", "(I)I"⟩, prog_3_method_6_code, 4, (some .int), 1, 0, 1),
  (⟨"PrayerMatsFace$Kneeling", "afterDays", "(II)I"⟩, prog_3_method_7_code, 5, (some .int), 1, 0, 2),
  (⟨"PrayerMatsFace$Kneeling", "firstMended", "(I)I"⟩, prog_3_method_8_code, 4, (some .int), 1, 0, 1),
  (⟨"PrayerMatsFace$Lots", "<init>", "(LPrayerMatsFace$Meeting;LPrayerMatsFace$Meeting;LPrayerMatsFace$Kneeling;)V"⟩, prog_4_method_1_code, 4, none, 2, 2, 3),
  (⟨"PrayerMatsFace$Lots", "run", "(II)V"⟩, prog_4_method_2_code, 4, none, 2, 0, 2),
  (⟨"PrayerMatsFace$Lots", "quarrelsTogether", "()I"⟩, prog_4_method_3_code, 1, (some .int), 2, 0, 0),
  (⟨"PrayerMatsFace$Lots", "twosWithout", "()I"⟩, prog_4_method_4_code, 1, (some .int), 2, 0, 0),
  (⟨"PrayerMatsFace$Lots", "liveYear", "()V"⟩, prog_4_method_5_code, 4, none, 2, 0, 0),
  (⟨"PrayerMatsFace$Lots", "draw", "(I)I"⟩, prog_4_method_6_code, 2, (some .int), 2, 0, 1),
  (⟨"PrayerMatsFace$Meeting", "<init>", "()V"⟩, prog_5_method_1_code, 1, none, 3, 2, 0),
  (⟨"PrayerMatsFace$Meeting", "copyFrom", "(LPrayerMatsFace$Meeting;)V"⟩, prog_5_method_2_code, 3, none, 3, 0, 1),
  (⟨"PrayerMatsFace$Meeting", "people", "()I"⟩, prog_5_method_3_code, 1, (some .int), 3, 0, 0),
  (⟨"PrayerMatsFace$Meeting", "day", "()I"⟩, prog_5_method_4_code, 1, (some .int), 3, 0, 0),
  (⟨"PrayerMatsFace$Meeting", "isFull", "()Z"⟩, prog_5_method_5_code, 1, (some .boolean), 3, 0, 0),
  (⟨"PrayerMatsFace$Meeting", "has", "(I)Z"⟩, prog_5_method_6_code, 2, (some .boolean), 3, 0, 1),
  (⟨"PrayerMatsFace$Meeting", "areTwo", "(II)Z"⟩, prog_5_method_7_code, 3, (some .boolean), 3, 0, 2),
  (⟨"PrayerMatsFace$Meeting", "addPerson", "(III)I"⟩, prog_5_method_8_code, 5, (some .int), 3, 0, 3),
  (⟨"PrayerMatsFace$Meeting", "kindOf", "(I)I"⟩, prog_5_method_9_code, 2, (some .int), 3, 0, 1),
  (⟨"PrayerMatsFace$Meeting", "setKind", "(II)V"⟩, prog_5_method_10_code, 3, none, 3, 0, 2),
  (⟨"PrayerMatsFace$Meeting", "figureOf", "(I)I"⟩, prog_5_method_11_code, 2, (some .int), 3, 0, 1),
  (⟨"PrayerMatsFace$Meeting", "setFigure", "(II)V"⟩, prog_5_method_12_code, 3, none, 3, 0, 2),
  (⟨"PrayerMatsFace$Meeting", "hoursOf", "(I)I"⟩, prog_5_method_13_code, 2, (some .int), 3, 0, 1),
  (⟨"PrayerMatsFace$Meeting", "setHours", "(II)V"⟩, prog_5_method_14_code, 3, none, 3, 0, 2),
  (⟨"PrayerMatsFace$Meeting", "mateOf", "(I)I"⟩, prog_5_method_15_code, 2, (some .int), 3, 0, 1),
  (⟨"PrayerMatsFace$Meeting", "setMate", "(II)V"⟩, prog_5_method_16_code, 3, none, 3, 0, 2),
  (⟨"PrayerMatsFace$Meeting", "quarrel", "(II)I"⟩, prog_5_method_17_code, 3, (some .int), 3, 0, 2),
  (⟨"PrayerMatsFace$Meeting", "setQuarrel", "(III)V"⟩, prog_5_method_18_code, 4, none, 3, 0, 3),
  (⟨"PrayerMatsFace$Meeting", "softOf", "(I)I"⟩, prog_5_method_19_code, 3, (some .int), 3, 0, 1),
  (⟨"PrayerMatsFace$Meeting", "soreOf", "(I)I"⟩, prog_5_method_20_code, 3, (some .int), 3, 0, 1),
  (⟨"PrayerMatsFace$Meeting", "charmOf", "(I)I"⟩, prog_5_method_21_code, 3, (some .int), 3, 0, 1),
  (⟨"PrayerMatsFace$Meeting", "onOneMat", "(II)Z"⟩, prog_5_method_22_code, 3, (some .boolean), 3, 0, 2),
  (⟨"PrayerMatsFace$Meeting", "joinOrPart", "(II)V"⟩, prog_5_method_23_code, 3, none, 3, 0, 2),
  (⟨"PrayerMatsFace$Meeting", "join", "(II)V"⟩, prog_5_method_24_code, 3, none, 3, 0, 2),
  (⟨"PrayerMatsFace$Meeting", "leaveMat", "(I)V"⟩, prog_5_method_25_code, 3, none, 3, 0, 1),
  (⟨"PrayerMatsFace$Meeting", "fullMats", "()I"⟩, prog_5_method_26_code, 3, (some .int), 3, 0, 0),
  (⟨"PrayerMatsFace$Meeting", "howManyTwos", "()I"⟩, prog_5_method_27_code, 1, (some .int), 3, 0, 0),
  (⟨"PrayerMatsFace$Meeting", "allQuarrels", "()I"⟩, prog_5_method_28_code, 4, (some .int), 3, 0, 0),
  (⟨"PrayerMatsFace$Meeting", "twosWithout", "()I"⟩, prog_5_method_29_code, 4, (some .int), 3, 0, 0),
  (⟨"PrayerMatsFace$Meeting", "matsAtPeace", "()Z"⟩, prog_5_method_30_code, 3, (some .boolean), 3, 0, 0),
  (⟨"PrayerMatsFace$Meeting", "live", "(ILPrayerMatsFace$Kneeling;)V"⟩, prog_5_method_31_code, 5, none, 3, 0, 2),
  (⟨"PrayerMatsFace$Meeting", "howManyComeAt", "(I)I"⟩, prog_5_method_32_code, 4, (some .int), 3, 0, 1),
  (⟨"PrayerMatsFace$Meeting", "likes", "(II)I"⟩, prog_5_method_33_code, 4, (some .int), 3, 0, 2),
  (⟨"PrayerMatsFace$Meeting", "wouldRather", "(II)Z"⟩, prog_5_method_34_code, 4, (some .boolean), 3, 0, 2),
  (⟨"PrayerMatsFace$Meeting", "wouldLeave", "(II)Z"⟩, prog_5_method_35_code, 3, (some .boolean), 3, 0, 2),
  (⟨"PrayerMatsFace$Meeting", "isRid", "(I)Z"⟩, prog_5_method_36_code, 3, (some .boolean), 3, 0, 1),
  (⟨"PrayerMatsFace$Meeting", "isSteady", "()Z"⟩, prog_5_method_37_code, 3, (some .boolean), 3, 0, 0),
  (⟨"PrayerMatsFace$Mind", "<init>", "(LPrayerMatsFace$Meeting;LPrayerMatsFace$Meeting;LPrayerMatsFace$Kneeling;)V"⟩, prog_6_method_1_code, 4, none, 4, 2, 3),
  (⟨"PrayerMatsFace$Mind", "quarrelBehind", "(III)I"⟩, prog_6_method_2_code, 5, (some .int), 4, 0, 3),
  (⟨"PrayerMatsFace$Mind", "allQuarrelsBehind", "(I)I"⟩, prog_6_method_3_code, 2, (some .int), 4, 0, 1),
  (⟨"PrayerMatsFace$Mind", "twosWithoutBehind", "(I)I"⟩, prog_6_method_4_code, 2, (some .int), 4, 0, 1),
  (⟨"PrayerMatsFace$Mind", "atLawBehind", "(I)I"⟩, prog_6_method_5_code, 6, (some .int), 4, 0, 1),
  (⟨"PrayerMatsFace$Mind", "firstMended", "(II)I"⟩, prog_6_method_6_code, 3, (some .int), 4, 0, 2),
  (⟨"PrayerMatsFace$Mind", "firstMendedOnOneMat", "(II)I"⟩, prog_6_method_7_code, 3, (some .int), 4, 0, 2),
  (⟨"PrayerMatsFace$Mind", "matsNeverMended", "()I"⟩, prog_6_method_8_code, 4, (some .int), 4, 0, 0),
  (⟨"PrayerMatsFace$Mind", "turnOf", "(II)I"⟩, prog_6_method_9_code, 3, (some .int), 4, 0, 2),
  (⟨"PrayerMatsFace$Mind", "bestHours", "(I)I"⟩, prog_6_method_10_code, 8, (some .int), 4, 0, 1),
  (⟨"PrayerMatsFace$Mind", "mendedByHours", "(II)I"⟩, prog_6_method_11_code, 4, (some .int), 4, 0, 2),
  (⟨"PrayerMatsFace$Mind", "lessByHour", "(III)I"⟩, prog_6_method_12_code, 6, (some .int), 4, 0, 3),
  (⟨"PrayerMatsFace$Mind", "kindsThatFit", "(IILPrayerMatsFace$Row;)I"⟩, prog_6_method_13_code, 6, (some .int), 4, 0, 3),
  (⟨"PrayerMatsFace$Mind", "figuresThatFit", "(IILPrayerMatsFace$Row;)I"⟩, prog_6_method_14_code, 6, (some .int), 4, 0, 3),
  (⟨"PrayerMatsFace$Mind", "hoursThatFit", "(IILPrayerMatsFace$Row;)I"⟩, prog_6_method_15_code, 6, (some .int), 4, 0, 3),
  (⟨"PrayerMatsFace$Mind", "fits", "(IILPrayerMatsFace$Row;)Z"⟩, prog_6_method_16_code, 7, (some .boolean), 4, 0, 3),
  (⟨"PrayerMatsFace$Mind", "firstPeace", "()I"⟩, prog_6_method_17_code, 2, (some .int), 4, 0, 0),
  (⟨"PrayerMatsFace$Mind", "bestHourTwice", "()I"⟩, prog_6_method_18_code, 5, (some .int), 4, 0, 0),
  (⟨"PrayerMatsFace$Mind", "matQuarrelsWithHourTwice", "(I)I"⟩, prog_6_method_19_code, 5, (some .int), 4, 0, 1),
  (⟨"PrayerMatsFace$Mind", "quarrelWithHourTwice", "(II)I"⟩, prog_6_method_20_code, 5, (some .int), 4, 0, 2),
  (⟨"PrayerMatsFace$Pairs", "<init>", "(LPrayerMatsFace$Meeting;LPrayerMatsFace$Meeting;LPrayerMatsFace$Kneeling;)V"⟩, prog_7_method_1_code, 4, none, 5, 2, 3),
  (⟨"PrayerMatsFace$Pairs", "howManySteady", "()I"⟩, prog_7_method_2_code, 3, (some .int), 5, 0, 0),
  (⟨"PrayerMatsFace$Pairs", "mateInFirstSteady", "(I)I"⟩, prog_7_method_3_code, 3, (some .int), 5, 0, 1),
  (⟨"PrayerMatsFace$Pairs", "listWays", "()V"⟩, prog_7_method_4_code, 1, none, 5, 0, 0),
  (⟨"PrayerMatsFace$Pairs", "putOnMats", "(I)V"⟩, prog_7_method_5_code, 3, none, 5, 0, 1),
  (⟨"PrayerMatsFace$Pairs", "leastQuarrels", "(I)I"⟩, prog_7_method_6_code, 3, (some .int), 5, 0, 1),
  (⟨"PrayerMatsFace$Pairs", "mateInBest", "(II)I"⟩, prog_7_method_7_code, 4, (some .int), 5, 0, 2),
  (⟨"PrayerMatsFace$Pairs", "bestWay", "(I)I"⟩, prog_7_method_8_code, 4, (some .int), 5, 0, 1),
  (⟨"PrayerMatsFace$Pairs", "measureChanges", "(I)V"⟩, prog_7_method_9_code, 6, none, 5, 0, 1),
  (⟨"PrayerMatsFace$Pairs", "changeBy", "(I)I"⟩, prog_7_method_10_code, 5, (some .int), 5, 0, 1),
  (⟨"PrayerMatsFace$Past", "<init>", "()V"⟩, prog_8_method_1_code, 2, none, 6, 2, 0),
  (⟨"PrayerMatsFace$Past", "keep", "(LPrayerMatsFace$Meeting;)V"⟩, prog_8_method_2_code, 2, none, 6, 0, 1),
  (⟨"PrayerMatsFace$Past", "takeBack", "(LPrayerMatsFace$Meeting;)V"⟩, prog_8_method_3_code, 2, none, 6, 0, 1),
  (⟨"PrayerMatsFace$Past", "isEmpty", "()Z"⟩, prog_8_method_4_code, 1, (some .boolean), 6, 0, 0),
  (⟨"PrayerMatsFace$Past", "number", "()I"⟩, prog_8_method_5_code, 1, (some .int), 6, 0, 0),
  (⟨"PrayerMatsFace$Past", "forget", "()V"⟩, prog_8_method_6_code, 1, none, 6, 0, 0),
  (⟨"PrayerMatsFace$Past", "meetingAt", "(I)LPrayerMatsFace$Meeting;"⟩, prog_8_method_7_code, 2, (some (.object "PrayerMatsFace$Meeting")), 6, 0, 1),
  (⟨"PrayerMatsFace$Past", "copy", "(LPrayerMatsFace$Meeting;LPrayerMatsFace$Meeting;)V"⟩, prog_8_method_8_code, 2, none, 6, 1, 2),
  (⟨"PrayerMatsFace$Quarter", "<init>", "(LPrayerMatsFace$Kneeling;)V"⟩, prog_9_method_1_code, 2, none, 7, 2, 1),
  (⟨"PrayerMatsFace$Quarter", "isFull", "()Z"⟩, prog_9_method_2_code, 1, (some .boolean), 7, 0, 0),
  (⟨"PrayerMatsFace$Quarter", "add", "(I)I"⟩, prog_9_method_3_code, 2, (some .int), 7, 0, 1),
  (⟨"PrayerMatsFace$Quarter", "number", "()I"⟩, prog_9_method_4_code, 1, (some .int), 7, 0, 0),
  (⟨"PrayerMatsFace$Quarter", "forget", "()V"⟩, prog_9_method_5_code, 1, none, 7, 0, 0),
  (⟨"PrayerMatsFace$Quarter", "readInto", "(LPrayerMatsFace$Meeting;)I"⟩, prog_9_method_6_code, 6, (some .int), 7, 0, 1),
  (⟨"PrayerMatsFace$Quarter", "firstLetterAmiss", "()I"⟩, prog_9_method_7_code, 3, (some .int), 7, 0, 0),
  (⟨"PrayerMatsFace$Quarter", "dueBehind", "(II)I"⟩, prog_9_method_8_code, 2, (some .int), 7, 1, 2),
  (⟨"PrayerMatsFace$Quarter", "digitsBehind", "(I)I"⟩, prog_9_method_9_code, 1, (some .int), 7, 1, 1),
  (⟨"PrayerMatsFace$Quarter", "carryOut", "(LPrayerMatsFace$Meeting;I)Z"⟩, prog_9_method_10_code, 6, (some .boolean), 7, 0, 2),
  (⟨"PrayerMatsFace$Quarter", "digit", "(I)I"⟩, prog_9_method_11_code, 2, (some .int), 7, 0, 1),
  (⟨"PrayerMatsFace$Quarter", "twoDigits", "(I)I"⟩, prog_9_method_12_code, 2, (some .int), 7, 0, 1),
  (⟨"PrayerMatsFace$Quarter", "addPerson", "(LPrayerMatsFace$Meeting;III)Z"⟩, prog_9_method_13_code, 4, (some .boolean), 7, 1, 4),
  (⟨"PrayerMatsFace$Quarter", "changeHours", "(LPrayerMatsFace$Meeting;II)Z"⟩, prog_9_method_14_code, 3, (some .boolean), 7, 1, 3),
  (⟨"PrayerMatsFace$Quarter", "changeQuarrel", "(LPrayerMatsFace$Meeting;III)Z"⟩, prog_9_method_15_code, 4, (some .boolean), 7, 1, 4),
  (⟨"PrayerMatsFace$Quarter", "changeMat", "(LPrayerMatsFace$Meeting;II)Z"⟩, prog_9_method_16_code, 3, (some .boolean), 7, 1, 3),
  (⟨"PrayerMatsFace$Row", "<init>", "()V"⟩, prog_10_method_1_code, 1, none, 8, 2, 0),
  (⟨"PrayerMatsFace$Row", "isFull", "()Z"⟩, prog_10_method_2_code, 1, (some .boolean), 8, 0, 0),
  (⟨"PrayerMatsFace$Row", "add", "(I)I"⟩, prog_10_method_3_code, 2, (some .int), 8, 0, 1),
  (⟨"PrayerMatsFace$Row", "at", "(I)I"⟩, prog_10_method_4_code, 2, (some .int), 8, 0, 1),
  (⟨"PrayerMatsFace$Row", "number", "()I"⟩, prog_10_method_5_code, 1, (some .int), 8, 0, 0),
  (⟨"PrayerMatsFace$Row", "forget", "()V"⟩, prog_10_method_6_code, 1, none, 8, 0, 0),
  (⟨"PrayerMatsFace$Standing", "<init>", "(LPrayerMatsFace$Meeting;)V"⟩, prog_11_method_1_code, 2, none, 9, 2, 1),
  (⟨"PrayerMatsFace$Standing", "firstLeaving", "()I"⟩, prog_11_method_2_code, 3, (some .int), 9, 0, 0),
  (⟨"PrayerMatsFace$Standing", "howManyLeave", "()I"⟩, prog_11_method_3_code, 4, (some .int), 9, 0, 0),
  (⟨"PrayerMatsFace$Standing", "thoseRid", "()I"⟩, prog_11_method_4_code, 3, (some .int), 9, 0, 0),
  (⟨"PrayerMatsFace$Standing", "mostLikedBy", "(I)I"⟩, prog_11_method_5_code, 4, (some .int), 9, 0, 1),
  (⟨"PrayerMatsFace$Standing", "whoWouldHave", "(I)I"⟩, prog_11_method_6_code, 4, (some .int), 9, 0, 1),
  (⟨"PrayerMatsFace$Standing", "thoseLonely", "()I"⟩, prog_11_method_7_code, 3, (some .int), 9, 0, 0),
  (⟨"PrayerMatsFace$Standing", "bestSwap", "()I"⟩, prog_11_method_8_code, 6, (some .int), 9, 0, 0),
  (⟨"PrayerMatsFace$Standing", "isLeastOfMat", "(I)Z"⟩, prog_11_method_9_code, 2, (some .boolean), 9, 0, 1),
  (⟨"PrayerMatsFace$Standing", "gainBySwap", "(II)I"⟩, prog_11_method_10_code, 5, (some .int), 9, 0, 2),
  (⟨"PrayerMatsFace$Standing", "likesOfBoth", "(II)I"⟩, prog_11_method_11_code, 3, (some .int), 9, 0, 2),
  (⟨"PrayerMatsFace$Standing", "fullestHour", "()I"⟩, prog_11_method_12_code, 3, (some .int), 9, 0, 0),
  (⟨"PrayerMatsFace$Standing", "allComings", "()I"⟩, prog_11_method_13_code, 3, (some .int), 9, 0, 0),
  (⟨"PrayerMatsFace$Standing", "mostCharming", "()I"⟩, prog_11_method_14_code, 3, (some .int), 9, 0, 0),
  (⟨"PrayerMatsFace$Standing", "howManyFriends", "()I"⟩, prog_11_method_15_code, 4, (some .int), 9, 0, 0),
  (⟨"PrayerMatsFace$Standing", "areFriends", "(II)Z"⟩, prog_11_method_16_code, 3, (some .boolean), 9, 0, 2),
  (⟨"PrayerMatsFace$Standing", "chainFrom", "(I)I"⟩, prog_11_method_17_code, 5, (some .int), 9, 0, 1),
  (⟨"PrayerMatsFace$Standing", "greatestLessLeast", "()I"⟩, prog_11_method_18_code, 5, (some .int), 9, 0, 0),
  (⟨"PrayerMatsFace$Standing", "worstFor", "(I)I"⟩, prog_11_method_19_code, 4, (some .int), 9, 0, 1),
  (⟨"PrayerMatsFace$Standing", "firstNotSo", "(ILPrayerMatsFace$Row;)I"⟩, prog_11_method_20_code, 5, (some .int), 9, 0, 2),
  (⟨"PrayerMatsFace$Standing", "firstSettledWays", "(II)I"⟩, prog_11_method_21_code, 6, (some .int), 9, 0, 2),
  (⟨"PrayerMatsFace$Standing", "isSettled", "(III)Z"⟩, prog_11_method_22_code, 3, (some .boolean), 9, 1, 3),
  (⟨"PrayerMatsFace$Standing", "worth", "(III)I"⟩, prog_11_method_23_code, 4, (some .int), 9, 1, 3),
  (⟨"PrayerMatsFace$Ways", "<init>", "()V"⟩, prog_12_method_1_code, 1, none, 10, 2, 0),
  (⟨"PrayerMatsFace$Ways", "list", "(I)V"⟩, prog_12_method_2_code, 3, none, 10, 0, 1),
  (⟨"PrayerMatsFace$Ways", "number", "()I"⟩, prog_12_method_3_code, 1, (some .int), 10, 0, 0),
  (⟨"PrayerMatsFace$Ways", "mateIn", "(II)I"⟩, prog_12_method_4_code, 3, (some .int), 10, 0, 2),
  (⟨"PrayerMatsFace$Ways", "put", "(LPrayerMatsFace$Ways;I)V"⟩, prog_12_method_5_code, 3, none, 10, 1, 2),
  (⟨"PrayerMatsFace$Ways", "keepWay", "()V"⟩, prog_12_method_6_code, 2, none, 10, 0, 0),
  (⟨"PrayerMatsFace", "<init>", "()V"⟩, prog_1_method_1_code, 1, none, 11, 2, 0),
  (⟨"PrayerMatsFace", "feed", "(I)I"⟩, prog_1_method_2_code, 2, (some .int), 11, 0, 1),
  (⟨"PrayerMatsFace", "quarter", "()I"⟩, prog_1_method_3_code, 2, (some .int), 11, 0, 0),
  (⟨"PrayerMatsFace", "personOf", "(II)I"⟩, prog_1_method_4_code, 3, (some .int), 11, 0, 2),
  (⟨"PrayerMatsFace", "between", "(III)I"⟩, prog_1_method_5_code, 4, (some .int), 11, 0, 3),
  (⟨"PrayerMatsFace", "person", "(III)I"⟩, prog_1_method_6_code, 4, (some .int), 11, 0, 3),
  (⟨"PrayerMatsFace", "comes", "(II)I"⟩, prog_1_method_7_code, 4, (some .int), 11, 0, 2),
  (⟨"PrayerMatsFace", "quarrels", "(III)I"⟩, prog_1_method_8_code, 5, (some .int), 11, 0, 3),
  (⟨"PrayerMatsFace", "joins", "(II)I"⟩, prog_1_method_9_code, 3, (some .int), 11, 0, 2),
  (⟨"PrayerMatsFace", "days", "(I)I"⟩, prog_1_method_10_code, 2, (some .int), 11, 0, 1),
  (⟨"PrayerMatsFace", "back", "()I"⟩, prog_1_method_11_code, 1, (some .int), 11, 0, 0),
  (⟨"PrayerMatsFace", "behind", "(III)I"⟩, prog_1_method_12_code, 4, (some .int), 11, 0, 3),
  (⟨"PrayerMatsFace", "all", "(II)I"⟩, prog_1_method_13_code, 3, (some .int), 11, 0, 2),
  (⟨"PrayerMatsFace", "mended", "(II)I"⟩, prog_1_method_14_code, 3, (some .int), 11, 0, 2),
  (⟨"PrayerMatsFace", "never", "()I"⟩, prog_1_method_15_code, 1, (some .int), 11, 0, 0),
  (⟨"PrayerMatsFace", "turn", "(II)I"⟩, prog_1_method_16_code, 3, (some .int), 11, 0, 2),
  (⟨"PrayerMatsFace", "leaves", "(I)I"⟩, prog_1_method_17_code, 2, (some .int), 11, 0, 1),
  (⟨"PrayerMatsFace", "pairings", "(I)I"⟩, prog_1_method_18_code, 2, (some .int), 11, 0, 1),
  (⟨"PrayerMatsFace", "bestPairing", "(II)I"⟩, prog_1_method_19_code, 3, (some .int), 11, 0, 2),
  (⟨"PrayerMatsFace", "soonest", "(II)I"⟩, prog_1_method_20_code, 3, (some .int), 11, 0, 2),
  (⟨"PrayerMatsFace", "mateFor", "(II)I"⟩, prog_1_method_21_code, 3, (some .int), 11, 0, 2),
  (⟨"PrayerMatsFace", "hoursFor", "(II)I"⟩, prog_1_method_22_code, 3, (some .int), 11, 0, 2),
  (⟨"PrayerMatsFace", "swap", "()I"⟩, prog_1_method_23_code, 1, (some .int), 11, 0, 0),
  (⟨"PrayerMatsFace", "glad", "(I)I"⟩, prog_1_method_24_code, 3, (some .int), 11, 0, 1),
  (⟨"PrayerMatsFace", "who", "(III)I"⟩, prog_1_method_25_code, 4, (some .int), 11, 0, 3),
  (⟨"PrayerMatsFace", "ways", "(II)I"⟩, prog_1_method_26_code, 3, (some .int), 11, 0, 2),
  (⟨"PrayerMatsFace", "away", "(IIIIII)J"⟩, prog_1_method_27_code, 8, (some .long), 11, 0, 6),
  (⟨"PrayerMatsFace", "fullest", "(I)I"⟩, prog_1_method_28_code, 2, (some .int), 11, 0, 1),
  (⟨"PrayerMatsFace", "charmer", "()I"⟩, prog_1_method_29_code, 1, (some .int), 11, 0, 0),
  (⟨"PrayerMatsFace", "friends", "()I"⟩, prog_1_method_30_code, 1, (some .int), 11, 0, 0),
  (⟨"PrayerMatsFace", "chain", "(I)I"⟩, prog_1_method_31_code, 2, (some .int), 11, 0, 1),
  (⟨"PrayerMatsFace", "lonely", "()I"⟩, prog_1_method_32_code, 1, (some .int), 11, 0, 0),
  (⟨"PrayerMatsFace", "spread", "()I"⟩, prog_1_method_33_code, 1, (some .int), 11, 0, 0),
  (⟨"PrayerMatsFace", "mean", "(I)J"⟩, prog_1_method_34_code, 2, (some .long), 11, 0, 1),
  (⟨"PrayerMatsFace", "enemy", "(I)I"⟩, prog_1_method_35_code, 2, (some .int), 11, 0, 1),
  (⟨"PrayerMatsFace", "peace", "()I"⟩, prog_1_method_36_code, 1, (some .int), 11, 0, 0),
  (⟨"PrayerMatsFace", "helps", "(III)I"⟩, prog_1_method_37_code, 4, (some .int), 11, 0, 3),
  (⟨"PrayerMatsFace", "doubled", "()I"⟩, prog_1_method_38_code, 1, (some .int), 11, 0, 0),
  (⟨"PrayerMatsFace", "row", "(I)I"⟩, prog_1_method_39_code, 2, (some .int), 11, 0, 1),
  (⟨"PrayerMatsFace", "judge", "(I)I"⟩, prog_1_method_40_code, 3, (some .int), 11, 0, 1),
  (⟨"PrayerMatsFace", "clear", "()I"⟩, prog_1_method_41_code, 2, (some .int), 11, 0, 0),
  (⟨"PrayerMatsFace", "lots", "(III)I"⟩, prog_1_method_42_code, 4, (some .int), 11, 0, 3),
  (⟨"PrayerMatsFace", "image", "()I"⟩, prog_1_method_43_code, 1, (some .int), 11, 0, 0),
  (⟨"PrayerMatsFace", "restore", "()I"⟩, prog_1_method_44_code, 1, (some .int), 11, 0, 0),
  (⟨"PrayerMatsFace", "count", "(I)I"⟩, prog_1_method_45_code, 2, (some .int), 11, 0, 1),
  (⟨"PrayerMatsFace", "refused", "(I)I"⟩, prog_1_method_46_code, 2, (some .int), 11, 0, 1),
  (⟨"PrayerMatsFace", "cell", "([II)I"⟩, prog_1_method_47_code, 2, (some .int), 11, 1, 2),
  (⟨"PrayerMatsFace", "setCell", "([III)V"⟩, prog_1_method_48_code, 3, none, 11, 1, 3),
  (⟨"PrayerMatsFace", "hasBit", "(II)Z"⟩, prog_1_method_49_code, 2, (some .boolean), 11, 1, 2),
  (⟨"PrayerMatsFace", "lowestBit", "(I)I"⟩, prog_1_method_50_code, 2, (some .int), 11, 1, 1),
  (⟨"PrayerMatsFace", "twoAsNumber", "(II)I"⟩, prog_1_method_51_code, 2, (some .int), 11, 1, 2),
  (⟨"PrayerMatsFace", "inLowestTerms", "(JJI)J"⟩, prog_1_method_52_code, 7, (some .long), 11, 1, 3),
  (⟨"PrayerMatsFace", "greatestDivisor", "(JJ)J"⟩, prog_1_method_53_code, 11, (some .long), 11, 1, 2),
  (⟨"PrayerMatsFaceModel", "<init>", "()V"⟩, prog_14_method_1_code, 1, none, 12, 2, 0),
  (⟨"PrayerMatsFaceModel", "in", "(JJJ)Z"⟩, prog_14_method_3_code, 6, (some .boolean), 12, 1, 3),
  (⟨"PrayerMatsFaceModel", "refuse", "(I)I"⟩, prog_14_method_4_code, 2, (some .int), 12, 0, 1),
  (⟨"PrayerMatsFaceModel", "isOne", "(I)Z"⟩, prog_14_method_5_code, 2, (some .boolean), 12, 0, 1),
  (⟨"PrayerMatsFaceModel", "areTwo", "(II)Z"⟩, prog_14_method_6_code, 3, (some .boolean), 12, 0, 2),
  (⟨"PrayerMatsFaceModel", "wrongNumber", "(III)I"⟩, prog_14_method_7_code, 3, (some .int), 12, 1, 3),
  (⟨"PrayerMatsFaceModel", "wrongBit", "(III)I"⟩, prog_14_method_8_code, 3, (some .int), 12, 1, 3),
  (⟨"PrayerMatsFaceModel", "hasBit", "(II)Z"⟩, prog_14_method_9_code, 2, (some .boolean), 12, 1, 2),
  (⟨"PrayerMatsFaceModel", "onesOf", "(I)I"⟩, prog_14_method_10_code, 3, (some .int), 12, 1, 1),
  (⟨"PrayerMatsFaceModel", "held", "(II)I"⟩, prog_14_method_11_code, 2, (some .int), 12, 1, 2),
  (⟨"PrayerMatsFaceModel", "softOf", "(I)I"⟩, prog_14_method_12_code, 2, (some .int), 12, 0, 1),
  (⟨"PrayerMatsFaceModel", "soreOf", "(I)I"⟩, prog_14_method_13_code, 2, (some .int), 12, 0, 1),
  (⟨"PrayerMatsFaceModel", "charmOf", "(I)I"⟩, prog_14_method_14_code, 2, (some .int), 12, 0, 1),
  (⟨"PrayerMatsFaceModel", "quarrelOf", "(II)I"⟩, prog_14_method_15_code, 3, (some .int), 12, 0, 2),
  (⟨"PrayerMatsFaceModel", "setQuarrel", "(III)V"⟩, prog_14_method_16_code, 4, none, 12, 0, 3),
  (⟨"PrayerMatsFaceModel", "likesOf", "(II)I"⟩, prog_14_method_17_code, 3, (some .int), 12, 0, 2),
  (⟨"PrayerMatsFaceModel", "ratherThanMate", "(II)Z"⟩, prog_14_method_18_code, 3, (some .boolean), 12, 0, 2),
  (⟨"PrayerMatsFaceModel", "behindHour", "(IIIII)I"⟩, prog_14_method_19_code, 9, (some .int), 12, 0, 5),
  (⟨"PrayerMatsFaceModel", "dayBy", "(II)V"⟩, prog_14_method_20_code, 8, none, 12, 0, 2),
  (⟨"PrayerMatsFaceModel", "goDays", "(I)V"⟩, prog_14_method_21_code, 3, none, 12, 0, 1),
  (⟨"PrayerMatsFaceModel", "allOf", "()I"⟩, prog_14_method_22_code, 4, (some .int), 12, 0, 0),
  (⟨"PrayerMatsFaceModel", "zerosOf", "()I"⟩, prog_14_method_23_code, 4, (some .int), 12, 0, 0),
  (⟨"PrayerMatsFaceModel", "leaveMat", "(I)V"⟩, prog_14_method_24_code, 2, none, 12, 0, 1),
  (⟨"PrayerMatsFaceModel", "join", "(II)V"⟩, prog_14_method_25_code, 3, none, 12, 0, 2),
  (⟨"PrayerMatsFaceModel", "joinOrNot", "(II)V"⟩, prog_14_method_26_code, 3, none, 12, 0, 2),
  (⟨"PrayerMatsFaceModel", "matsOf", "()I"⟩, prog_14_method_27_code, 3, (some .int), 12, 0, 0),
  (⟨"PrayerMatsFaceModel", "feed", "(I)I"⟩, prog_14_method_28_code, 2, (some .int), 12, 0, 1),
  (⟨"PrayerMatsFaceModel", "here", "()I"⟩, prog_14_method_29_code, 1, (some .int), 12, 0, 0),
  (⟨"PrayerMatsFaceModel", "readDigits", "(I)I"⟩, prog_14_method_30_code, 4, (some .int), 12, 0, 1),
  (⟨"PrayerMatsFaceModel", "isLetter", "(I)Z"⟩, prog_14_method_31_code, 1, (some .boolean), 12, 1, 1),
  (⟨"PrayerMatsFaceModel", "readNumbers", "(II)V"⟩, prog_14_method_32_code, 3, none, 12, 0, 2),
  (⟨"PrayerMatsFaceModel", "readStatement", "()V"⟩, prog_14_method_33_code, 3, none, 12, 0, 0),
  (⟨"PrayerMatsFaceModel", "oneComes", "(III)V"⟩, prog_14_method_34_code, 5, none, 12, 0, 3),
  (⟨"PrayerMatsFaceModel", "comesTold", "(I)Z"⟩, prog_14_method_35_code, 6, (some .boolean), 12, 0, 1),
  (⟨"PrayerMatsFaceModel", "quarter", "()I"⟩, prog_14_method_36_code, 2, (some .int), 12, 0, 0),
  (⟨"PrayerMatsFaceModel", "carry", "(I)I"⟩, prog_14_method_37_code, 2, (some .int), 12, 0, 1),
  (⟨"PrayerMatsFaceModel", "carryAll", "([IZ)V"⟩, prog_14_method_38_code, 4, none, 12, 0, 2),
  (⟨"PrayerMatsFaceModel", "think", "()V"⟩, prog_14_method_39_code, 1, none, 12, 0, 0),
  (⟨"PrayerMatsFaceModel", "again", "()V"⟩, prog_14_method_40_code, 1, none, 12, 0, 0),
  (⟨"PrayerMatsFaceModel", "image", "()I"⟩, prog_14_method_41_code, 1, (some .int), 12, 0, 0),
  (⟨"PrayerMatsFaceModel", "restore", "()I"⟩, prog_14_method_42_code, 1, (some .int), 12, 0, 0),
  (⟨"PrayerMatsFaceModel", "keepTurn", "()V"⟩, prog_14_method_43_code, 2, none, 12, 0, 0),
  (⟨"PrayerMatsFaceModel", "back", "()I"⟩, prog_14_method_44_code, 2, (some .int), 12, 0, 0),
  (⟨"PrayerMatsFaceModel", "personOf", "(II)I"⟩, prog_14_method_45_code, 3, (some .int), 12, 0, 2),
  (⟨"PrayerMatsFaceModel", "between", "(III)I"⟩, prog_14_method_46_code, 5, (some .int), 12, 0, 3),
  (⟨"PrayerMatsFaceModel", "person", "(III)I"⟩, prog_14_method_47_code, 5, (some .int), 12, 0, 3),
  (⟨"PrayerMatsFaceModel", "comes", "(II)I"⟩, prog_14_method_48_code, 5, (some .int), 12, 0, 2),
  (⟨"PrayerMatsFaceModel", "quarrels", "(III)I"⟩, prog_14_method_49_code, 6, (some .int), 12, 0, 3),
  (⟨"PrayerMatsFaceModel", "joins", "(II)I"⟩, prog_14_method_50_code, 3, (some .int), 12, 0, 2),
  (⟨"PrayerMatsFaceModel", "days", "(I)I"⟩, prog_14_method_51_code, 3, (some .int), 12, 0, 1),
  (⟨"PrayerMatsFaceModel", "behind", "(III)I"⟩, prog_14_method_52_code, 6, (some .int), 12, 0, 3),
  (⟨"PrayerMatsFaceModel", "worstTwo", "()I"⟩, prog_14_method_53_code, 5, (some .int), 12, 0, 0),
  (⟨"PrayerMatsFaceModel", "all", "(II)I"⟩, prog_14_method_54_code, 5, (some .int), 12, 0, 2),
  (⟨"PrayerMatsFaceModel", "zeroIn", "(II)I"⟩, prog_14_method_55_code, 5, (some .int), 12, 0, 2),
  (⟨"PrayerMatsFaceModel", "mended", "(II)I"⟩, prog_14_method_56_code, 3, (some .int), 12, 0, 2),
  (⟨"PrayerMatsFaceModel", "never", "()I"⟩, prog_14_method_57_code, 3, (some .int), 12, 0, 0),
  (⟨"PrayerMatsFaceModel", "turn", "(II)I"⟩, prog_14_method_58_code, 4, (some .int), 12, 0, 2),
  (⟨"PrayerMatsFaceModel", "wouldLeave", "(II)Z"⟩, prog_14_method_59_code, 3, (some .boolean), 12, 0, 2),
  (⟨"PrayerMatsFaceModel", "ridBits", "()I"⟩, prog_14_method_60_code, 3, (some .int), 12, 0, 0),
  (⟨"PrayerMatsFaceModel", "leavingTwos", "()I"⟩, prog_14_method_61_code, 4, (some .int), 12, 0, 0),
  (⟨"PrayerMatsFaceModel", "leaves", "(I)I"⟩, prog_14_method_62_code, 5, (some .int), 12, 0, 1),
  (⟨"PrayerMatsFaceModel", "layTrial", "(II)Z"⟩, prog_14_method_63_code, 9, (some .boolean), 12, 0, 2),
  (⟨"PrayerMatsFaceModel", "layPairings", "()V"⟩, prog_14_method_64_code, 4, none, 12, 0, 0),
  (⟨"PrayerMatsFaceModel", "takePairing", "(I)V"⟩, prog_14_method_65_code, 3, none, 12, 0, 1),
  (⟨"PrayerMatsFaceModel", "pairings", "(I)I"⟩, prog_14_method_66_code, 6, (some .int), 12, 0, 1),
  (⟨"PrayerMatsFaceModel", "bestPairing", "(II)I"⟩, prog_14_method_67_code, 8, (some .int), 12, 0, 2),
  (⟨"PrayerMatsFaceModel", "soonest", "(II)I"⟩, prog_14_method_68_code, 3, (some .int), 12, 0, 2),
  (⟨"PrayerMatsFaceModel", "mostLiked", "(I)I"⟩, prog_14_method_69_code, 4, (some .int), 12, 0, 1),
  (⟨"PrayerMatsFaceModel", "mateFor", "(II)I"⟩, prog_14_method_70_code, 6, (some .int), 12, 0, 2),
  (⟨"PrayerMatsFaceModel", "hoursFor", "(II)I"⟩, prog_14_method_71_code, 9, (some .int), 12, 0, 2),
  (⟨"PrayerMatsFaceModel", "allLikes", "()I"⟩, prog_14_method_72_code, 3, (some .int), 12, 0, 0),
  (⟨"PrayerMatsFaceModel", "swap", "()I"⟩, prog_14_method_73_code, 8, (some .int), 12, 0, 0),
  (⟨"PrayerMatsFaceModel", "glad", "(I)I"⟩, prog_14_method_74_code, 2, (some .int), 12, 0, 1),
  (⟨"PrayerMatsFaceModel", "isRow", "(II)Z"⟩, prog_14_method_75_code, 5, (some .boolean), 12, 0, 2),
  (⟨"PrayerMatsFaceModel", "who", "(III)I"⟩, prog_14_method_76_code, 10, (some .int), 12, 0, 3),
  (⟨"PrayerMatsFaceModel", "hasBy", "(III)I"⟩, prog_14_method_77_code, 4, (some .int), 12, 1, 3),
  (⟨"PrayerMatsFaceModel", "ways", "(II)I"⟩, prog_14_method_78_code, 7, (some .int), 12, 0, 2),
  (⟨"PrayerMatsFaceModel", "divisor", "(JJ)J"⟩, prog_14_method_79_code, 10, (some .long), 12, 1, 2),
  (⟨"PrayerMatsFaceModel", "partOf", "(JJI)J"⟩, prog_14_method_80_code, 7, (some .long), 12, 1, 3),
  (⟨"PrayerMatsFaceModel", "away", "(IIIIII)J"⟩, prog_14_method_81_code, 16, (some .long), 12, 0, 6),
  (⟨"PrayerMatsFaceModel", "comingAt", "(I)I"⟩, prog_14_method_82_code, 4, (some .int), 12, 0, 1),
  (⟨"PrayerMatsFaceModel", "fullest", "(I)I"⟩, prog_14_method_83_code, 4, (some .int), 12, 0, 1),
  (⟨"PrayerMatsFaceModel", "charmer", "()I"⟩, prog_14_method_84_code, 3, (some .int), 12, 0, 0),
  (⟨"PrayerMatsFaceModel", "friends", "()I"⟩, prog_14_method_85_code, 4, (some .int), 12, 0, 0),
  (⟨"PrayerMatsFaceModel", "chain", "(I)I"⟩, prog_14_method_86_code, 4, (some .int), 12, 0, 1),
  (⟨"PrayerMatsFaceModel", "lonely", "()I"⟩, prog_14_method_87_code, 5, (some .int), 12, 0, 0),
  (⟨"PrayerMatsFaceModel", "spread", "()I"⟩, prog_14_method_88_code, 6, (some .int), 12, 0, 0),
  (⟨"PrayerMatsFaceModel", "mean", "(I)J"⟩, prog_14_method_89_code, 2, (some .long), 12, 0, 1),
  (⟨"PrayerMatsFaceModel", "enemy", "(I)I"⟩, prog_14_method_90_code, 4, (some .int), 12, 0, 1),
  (⟨"PrayerMatsFaceModel", "isPeace", "()Z"⟩, prog_14_method_91_code, 3, (some .boolean), 12, 0, 0),
  (⟨"PrayerMatsFaceModel", "peace", "()I"⟩, prog_14_method_92_code, 3, (some .int), 12, 0, 0),
  (⟨"PrayerMatsFaceModel", "helps", "(III)I"⟩, prog_14_method_93_code, 7, (some .int), 12, 0, 3),
  (⟨"PrayerMatsFaceModel", "doubled", "()I"⟩, prog_14_method_94_code, 5, (some .int), 12, 0, 0),
  (⟨"PrayerMatsFaceModel", "row", "(I)I"⟩, prog_14_method_95_code, 2, (some .int), 12, 0, 1),
  (⟨"PrayerMatsFaceModel", "judge", "(I)I"⟩, prog_14_method_96_code, 4, (some .int), 12, 0, 1),
  (⟨"PrayerMatsFaceModel", "clear", "()I"⟩, prog_14_method_97_code, 2, (some .int), 12, 0, 0),
  (⟨"PrayerMatsFaceModel", "drawBelow", "(I)I"⟩, prog_14_method_98_code, 2, (some .int), 12, 0, 1),
  (⟨"PrayerMatsFaceModel", "lots", "(III)I"⟩, prog_14_method_99_code, 10, (some .int), 12, 0, 3),
  (⟨"PrayerMatsFaceModel", "count", "(I)I"⟩, prog_14_method_100_code, 4, (some .int), 12, 0, 1),
  (⟨"java/lang/Integer", "bitCount", "(I)I"⟩, prog_15_method_49_code, 1, (some .int), 13, 1, 1),
  (⟨"java/lang/Math", "max", "(II)I"⟩, prog_16_method_65_code, 2, (some .int), 14, 1, 2),
  (⟨"java/lang/Math", "min", "(II)I"⟩, prog_16_method_69_code, 2, (some .int), 14, 1, 2),
  (⟨"PrayerMatsFaceLaw", "law", "([I)Z"⟩, code, 4, (some .boolean), 15, 1, 1)]
def mrow (y : Nat) : MethodName × ByteArray × Nat × Option FieldType × Nat × Nat × Nat := mtab.getD y (⟨"", "", ""⟩, ⟨#[]⟩, 0, none, 99, 9, 0)
/-- a method's name, bytes, locals, answer, class, kind (0 virtual, 1 static, 2 a constructor), parameters -/
def nmY (y : Nat) : MethodName := (mrow y).1
def byY (y : Nat) : ByteArray := (mrow y).2.1
def mxY (y : Nat) : Nat := (mrow y).2.2.1
def rtY (y : Nat) : Option FieldType := (mrow y).2.2.2.1
def ocY (y : Nat) : Nat := (mrow y).2.2.2.2.1
def vkY (y : Nat) : Nat := (mrow y).2.2.2.2.2.1
def npY (y : Nat) : Nat := (mrow y).2.2.2.2.2.2
def nY : Nat := 302
def flT : List (Nat × Nat × Nat × Nat) := [(3, 9, 3, 0), (3, 15, 3, 1), (3, 18, 3, 2), (3, 21, 3, 3), (3, 24, 3, 4), (3, 35, 3, 5), (3, 39, 3, 6), (1, 9, 1, 0), (1, 21, 1, 1), (1, 28, 1, 2), (1, 34, 1, 3), (1, 37, 1, 4), (9, 9, 9, 0), (4, 9, 4, 0), (4, 15, 4, 1), (4, 18, 4, 2), (10, 11, 10, 0), (10, 15, 10, 1), (10, 24, 10, 2), (10, 28, 10, 3), (5, 9, 5, 0), (5, 15, 5, 1), (5, 18, 5, 2), (5, 25, 5, 3), (5, 29, 5, 4), (2, 7, 2, 0), (2, 13, 2, 1), (2, 16, 2, 2), (2, 20, 2, 3), (2, 24, 2, 4), (2, 27, 2, 5), (0, 9, 0, 0), (0, 15, 0, 1), (0, 19, 0, 2), (0, 23, 0, 3), (0, 26, 0, 4), (7, 9, 7, 0), (7, 15, 7, 1), (7, 19, 7, 2), (8, 9, 8, 0), (8, 15, 8, 1), (6, 11, 6, 0), (6, 18, 6, 1), (6, 30, 6, 2), (11, 10, 11, 0), (11, 16, 11, 1), (11, 19, 11, 2), (11, 350, 11, 3), (11, 25, 11, 4), (11, 34, 11, 5), (11, 43, 11, 6), (11, 50, 11, 7), (11, 57, 11, 8), (11, 66, 11, 9), (11, 75, 11, 10), (11, 82, 11, 11), (11, 89, 11, 12), (11, 93, 11, 13), (12, 68, 12, 0), (12, 7, 12, 1), (12, 13, 12, 2), (12, 16, 12, 3), (12, 19, 12, 4), (12, 22, 12, 5), (12, 106, 12, 6), (12, 65, 12, 7), (12, 25, 12, 8), (12, 28, 12, 9), (12, 131, 12, 10), (12, 134, 12, 11), (12, 137, 12, 12), (12, 152, 12, 13), (12, 31, 12, 14), (12, 34, 12, 15), (12, 37, 12, 16), (12, 40, 12, 17), (12, 43, 12, 18), (12, 206, 12, 19), (12, 196, 12, 20), (12, 190, 12, 21), (12, 193, 12, 22), (12, 46, 12, 23), (12, 49, 12, 24), (12, 187, 12, 25), (12, 52, 12, 26), (12, 253, 12, 27), (12, 55, 12, 28), (12, 59, 12, 29), (12, 62, 12, 30), (12, 273, 12, 31), (12, 301, 12, 32)]
def mlT : List (Nat × Nat × Nat) := [(15, 9, 146), (11, 9, 20), (11, 24, 6), (11, 31, 117), (11, 40, 57), (11, 49, 77), (5, 24, 140), (11, 56, 14), (11, 63, 0), (11, 72, 95), (11, 81, 111), (11, 88, 87), (6, 17, 20), (15, 13, 147), (11, 97, 191), (11, 361, 192), (11, 365, 193), (11, 101, 96), (11, 105, 97), (15, 18, 148), (11, 108, 21), (11, 111, 100), (7, 27, 101), (7, 39, 102), (7, 43, 103), (7, 35, 104), (7, 47, 105), (7, 50, 106), (7, 53, 107), (7, 76, 24), (7, 80, 27), (7, 57, 108), (7, 83, 25), (7, 87, 33), (7, 61, 109), (7, 91, 26), (3, 42, 25), (7, 95, 37), (7, 64, 110), (7, 99, 42), (3, 50, 41), (3, 46, 34), (3, 54, 44), (3, 58, 43), (3, 62, 35), (7, 67, 23), (7, 72, 50), (3, 69, 7), (1, 15, 32), (1, 25, 38), (1, 31, 39), (1, 40, 8), (1, 48, 9), (3, 65, 36), (3, 75, 12), (1, 72, 11), (1, 69, 10), (1, 60, 300), (1, 66, 299), (3, 78, 37), (11, 115, 99), (11, 118, 92), (15, 23, 149), (11, 119, 25), (11, 123, 28), (11, 126, 30), (11, 129, 32), (11, 132, 34), (11, 135, 38), (11, 138, 39), (11, 141, 40), (15, 28, 150), (11, 144, 26), (11, 148, 36), (11, 152, 52), (3, 82, 32), (3, 88, 298), (3, 93, 40), (15, 33, 151), (11, 155, 24), (11, 156, 27), (15, 37, 152), (11, 160, 88), (6, 22, 93), (6, 26, 94), (6, 39, 21), (6, 33, 300), (11, 163, 33), (15, 41, 153), (11, 167, 37), (15, 45, 154), (11, 171, 42), (11, 174, 45), (15, 49, 155), (11, 178, 23), (11, 181, 50), (11, 185, 47), (15, 53, 156), (11, 188, 90), (11, 191, 89), (11, 194, 91), (15, 57, 157), (11, 197, 58), (4, 22, 36), (4, 28, 41), (4, 32, 7), (4, 38, 12), (15, 61, 158), (11, 200, 59), (4, 41, 21), (4, 45, 50), (4, 49, 47), (11, 203, 60), (4, 53, 48), (11, 206, 61), (4, 56, 22), (15, 65, 159), (11, 209, 62), (4, 62, 63), (4, 65, 13), (15, 69, 160), (11, 212, 64), (4, 69, 34), (4, 72, 58), (15, 73, 161), (11, 216, 65), (4, 76, 11), (15, 77, 162), (11, 219, 118), (9, 15, 22), (9, 21, 54), (3, 99, 53), (3, 96, 52), (11, 222, 119), (11, 225, 120), (9, 29, 55), (15, 81, 163), (11, 228, 78), (5, 33, 80), (5, 54, 21), (5, 58, 22), (5, 61, 141), (10, 18, 300), (10, 35, 144), (10, 43, 145), (5, 36, 142), (5, 40, 81), (5, 64, 143), (5, 68, 35), (5, 44, 56), (3, 102, 55), (3, 105, 54), (11, 231, 79), (5, 50, 34), (15, 85, 164), (11, 234, 82), (5, 72, 84), (5, 81, 85), (5, 84, 36), (5, 87, 7), (5, 93, 12), (5, 78, 86), (5, 75, 47), (11, 237, 83), (15, 89, 165), (11, 240, 63), (15, 93, 166), (11, 243, 121), (9, 33, 52), (11, 246, 122), (9, 36, 53), (15, 97, 167), (11, 249, 66), (4, 79, 67), (4, 87, 8), (4, 82, 298), (11, 252, 67), (15, 101, 168), (11, 255, 124), (9, 46, 125), (9, 39, 34), (9, 49, 126), (9, 52, 127), (15, 105, 169), (15, 109, 170), (11, 258, 69), (4, 94, 29), (4, 98, 72), (4, 108, 115), (4, 113, 114), (11, 262, 70), (4, 102, 31), (11, 265, 71), (4, 105, 33), (11, 268, 298), (11, 273, 195), (11, 369, 194), (15, 113, 171), (11, 276, 137), (9, 75, 36), (9, 97, 138), (9, 101, 139), (9, 78, 299), (15, 117, 172), (11, 281, 1), (0, 30, 36), (0, 36, 5), (0, 40, 41), (0, 44, 7), (0, 50, 32), (0, 54, 4), (0, 58, 8), (0, 62, 11), (11, 285, 3), (11, 289, 2), (11, 293, 197), (11, 372, 198), (15, 122, 173), (11, 297, 128), (9, 55, 51), (11, 300, 51), (15, 126, 174), (11, 303, 130), (9, 58, 40), (15, 130, 175), (11, 306, 131), (9, 61, 132), (15, 134, 176), (11, 309, 133), (9, 67, 121), (9, 70, 298), (15, 138, 177), (11, 312, 123), (9, 43, 122), (15, 142, 178), (11, 315, 134), (9, 83, 300), (15, 146, 179), (11, 318, 46), (15, 151, 180), (11, 321, 135), (15, 155, 181), (11, 324, 73), (4, 116, 49), (15, 159, 182), (11, 327, 68), (4, 91, 32), (15, 163, 183), (11, 330, 74), (4, 120, 75), (4, 123, 76), (4, 126, 10), (15, 167, 184), (11, 333, 112), (11, 334, 113), (15, 171, 185), (11, 335, 136), (9, 86, 115), (9, 91, 25), (9, 94, 114), (11, 339, 116), (15, 175, 186), (11, 340, 115), (15, 179, 187), (11, 341, 15), (2, 30, 22), (2, 36, 18), (2, 44, 21), (2, 48, 19), (2, 52, 41), (2, 56, 43), (2, 60, 50), (2, 39, 47), (2, 42, 48), (11, 344, 16), (11, 347, 17), (15, 183, 188), (15, 187, 189), (15, 191, 190), (11, 354, 22), (11, 357, 129), (11, 360, 98), (15, 12, 199), (15, 17, 225), (12, 128, 201), (15, 22, 233), (12, 175, 230), (12, 141, 226), (12, 155, 228), (12, 158, 229), (12, 149, 227), (12, 71, 200), (12, 178, 236), (12, 202, 235), (12, 199, 234), (12, 181, 232), (12, 161, 231), (12, 113, 213), (12, 75, 202), (12, 164, 203), (12, 167, 223), (12, 121, 221), (12, 125, 222), (12, 172, 218), (12, 117, 217), (12, 109, 216), (12, 93, 206), (12, 79, 212), (12, 97, 209), (12, 100, 210), (12, 103, 208), (12, 184, 237), (15, 186, 238), (15, 190, 239), (15, 56, 241), (15, 27, 242), (12, 87, 211), (15, 32, 243), (12, 211, 205), (12, 90, 214), (12, 83, 207), (15, 36, 244), (15, 40, 245), (12, 217, 204), (12, 220, 240), (15, 44, 246), (15, 48, 247), (12, 223, 224), (15, 52, 248), (12, 226, 219), (15, 60, 249), (15, 64, 251), (12, 229, 220), (12, 232, 250), (15, 68, 253), (12, 235, 252), (15, 72, 254), (15, 76, 255), (15, 80, 259), (12, 242, 256), (12, 239, 215), (12, 247, 258), (12, 250, 257), (15, 84, 263), (12, 261, 261), (12, 256, 260), (12, 264, 262), (15, 88, 264), (15, 92, 265), (15, 96, 267), (12, 267, 266), (15, 100, 268), (15, 104, 270), (12, 270, 269), (15, 108, 271), (15, 112, 273), (12, 276, 272), (15, 116, 275), (12, 279, 274), (15, 121, 278), (12, 288, 277), (12, 282, 276), (15, 125, 280), (12, 292, 279), (15, 129, 281), (15, 133, 282), (15, 137, 283), (15, 141, 284), (15, 145, 285), (15, 150, 286), (15, 154, 287), (15, 158, 289), (12, 295, 288), (15, 162, 290), (15, 166, 291), (15, 170, 292), (15, 174, 293), (15, 178, 294), (15, 182, 296), (12, 307, 295), (15, 194, 297)]
def mzT : List (Nat × Nat × Nat) := [(7, 23, 193), (3, 27, 192), (3, 31, 193), (7, 31, 192), (1, 44, 194), (1, 52, 193), (1, 56, 192), (4, 59, 196), (9, 25, 196), (10, 31, 193), (10, 39, 192), (5, 96, 193), (5, 100, 192), (8, 23, 192), (3, 85, 194), (9, 64, 194), (8, 19, 193)]
def moT : List (Nat × Nat) := [(11, 1), (3, 3), (1, 3), (9, 3), (4, 3), (5, 3), (10, 3), (2, 1), (0, 3), (7, 3), (8, 3), (6, 3), (12, 1)]
def kiT : List (Nat × Nat × Int) := [(13, 265, 1431655765), (13, 266, 858993459), (13, 267, 252645135), (11, 215, 1000000000), (2, 64, 1103515245), (2, 65, 2147483647), (2, 66, 65536), (12, 238, 1000000000), (12, 304, 1103515245), (12, 305, 2147483647), (12, 306, 65536)]
def klT : List (Nat × Nat × Int) := [(11, 279, 4000000000000000000), (12, 145, 48), (12, 147, 57), (12, 170, 60), (12, 209, 6), (12, 215, 5), (12, 245, 2), (12, 259, -1), (12, 286, 4000000000000000000), (12, 299, 4), (12, 310, 11), (12, 312, 16)]
def clT : List (Nat × Nat × Nat) := [(15, 7, 11), (11, 7, 3), (11, 22, 1), (11, 29, 9), (11, 38, 4), (11, 47, 5), (5, 22, 10), (11, 54, 2), (11, 61, 0), (11, 70, 7), (11, 79, 8), (11, 86, 6), (6, 9, 3), (15, 10, 12)]
/-! each word that is used stands in the tables -/
set_option maxRecDepth 20000 in
theorem p_fl : (flT.map (fun q => Cond.fieldLink (kC q.1) q.2.1 (kT q.2.2.1 q.2.2.2).1 (kT q.2.2.1 q.2.2.2).2.1 (kT q.2.2.1 q.2.2.2).2.2.1)) = ([98, 99, 100, 101, 102, 103, 104, 127, 128, 129, 130, 131, 149, 159, 160, 161, 181, 182, 183, 184, 194, 195, 196, 197, 198, 216, 217, 218, 219, 220, 221, 241, 242, 243, 244, 245, 264, 265, 266, 280, 281, 296, 297, 298, 306, 307, 308, 309, 310, 311, 312, 313, 314, 315, 316, 317, 318, 319, 1198, 1199, 1200, 1201, 1202, 1203, 1204, 1205, 1206, 1207, 1208, 1209, 1210, 1211, 1212, 1213, 1214, 1215, 1216, 1217, 1218, 1219, 1220, 1221, 1222, 1223, 1224, 1225, 1226, 1227, 1228, 1229, 1230] : List Nat).filterMap (fun i => lw_tbl[i]?) := by decide +kernel
set_option maxRecDepth 20000 in
theorem p_ml : (mlT.map (fun q => Cond.methodLink (kC q.1) q.2.1 (nmY q.2.2))) = ([86, 94, 123, 145, 155, 171, 177, 212, 237, 260, 276, 289, 295, 349, 353, 357, 360, 363, 367, 372, 376, 382, 386, 391, 394, 397, 401, 405, 409, 412, 416, 420, 423, 427, 431, 434, 438, 439, 443, 446, 450, 454, 458, 462, 466, 470, 474, 478, 482, 486, 490, 494, 501, 506, 510, 514, 518, 523, 526, 529, 530, 534, 538, 542, 543, 547, 551, 552, 553, 554, 555, 559, 563, 564, 565, 569, 570, 576, 577, 581, 582, 583, 587, 591, 595, 598, 599, 600, 601, 605, 606, 610, 611, 615, 619, 620, 621, 625, 629, 633, 637, 641, 645, 649, 650, 651, 652, 653, 657, 661, 662, 663, 664, 668, 672, 676, 683, 687, 691, 695, 699, 703, 707, 708, 709, 714, 718, 719, 723, 727, 728, 732, 736, 738, 742, 746, 750, 754, 758, 762, 763, 764, 768, 770, 773, 778, 782, 786, 790, 791, 795, 796, 797, 801, 802, 806, 810, 814, 818, 819, 820, 822, 827, 828, 832, 836, 837, 841, 845, 846, 850, 851, 855, 859, 863, 864, 865, 866, 870, 874, 878, 879, 883, 887, 891, 895, 899, 903, 907, 911, 916, 920, 924, 928, 929, 930, 933, 934, 938, 942, 943, 946, 949, 950, 955, 959, 960, 963, 964, 965, 966, 970, 971, 972, 976, 980, 983, 986, 990, 994, 999, 1000, 1004, 1008, 1009, 1013, 1017, 1021, 1025, 1030, 1031, 1032, 1036, 1040, 1041, 1045, 1049, 1050, 1054, 1058, 1062, 1066, 1070, 1074, 1078, 1082, 1086, 1087, 1091, 1095, 1099, 1103, 1104, 1108, 1112, 1117, 1121, 1125, 1126, 1127, 1128, 1132, 1136, 1137, 1141, 1145, 1146, 1150, 1151, 1158, 1159, 1160, 1161, 1162, 1163, 1167, 1171, 1175, 1179, 1183, 1184, 1188, 1194, 1298, 1302, 1306, 1310, 1314, 1318, 1321, 1325, 1331, 1334, 1338, 1342, 1346, 1350, 1354, 1358, 1362, 1366, 1370, 1374, 1379, 1383, 1387, 1391, 1394, 1398, 1402, 1406, 1409, 1413, 1417, 1421, 1425, 1430, 1434, 1438, 1441, 1445, 1448, 1453, 1457, 1460, 1464, 1468, 1472, 1476, 1480, 1484, 1488, 1492, 1496, 1500, 1504, 1508, 1512, 1517, 1522, 1526, 1530, 1534, 1538, 1543, 1547, 1551, 1555, 1559, 1563, 1567, 1571, 1575, 1579, 1583, 1587, 1591, 1595, 1599, 1602, 1607, 1610, 1613, 1617, 1621, 1625, 1629, 1633, 1637, 1641, 1645, 1649, 1653, 1657, 1662, 1666, 1670, 1674, 1678, 1682, 1689] : List Nat).filterMap (fun i => lw_tbl[i]?) := by decide +kernel
set_option maxRecDepth 20000 in
theorem p_mz : (mzT.map (fun q => Cond.methodLinkNest (kC q.1) q.2.1 (nmY q.2.2) "PrayerMatsFace")) = ([371, 380, 381, 390, 498, 505, 522, 680, 737, 769, 777, 821, 826, 915, 998, 1029, 1116] : List Nat).filterMap (fun i => lw_tbl[i]?) := by decide +kernel
set_option maxRecDepth 20000 in
theorem p_mo : (moT.map (fun q => Cond.methodLink (kC q.1) q.2 objectInit)) = ([89, 97, 126, 148, 158, 174, 180, 215, 240, 263, 279, 292, 1197] : List Nat).filterMap (fun i => lw_tbl[i]?) := by decide +kernel
set_option maxRecDepth 20000 in
theorem p_ki : (kiT.map (fun q => Cond.constant (kC q.1) q.2.1 (Int32.ofInt q.2.2))) = ([573, 574, 575, 713, 1155, 1156, 1157, 1516, 1686, 1687, 1688] : List Nat).filterMap (fun i => lw_tbl[i]?) := by decide +kernel
set_option maxRecDepth 20000 in
theorem p_kl : (klT.map (fun q => Cond.constantLong (kC q.1) q.2.1 (Int64.ofInt q.2.2))) = ([954, 1329, 1330, 1378, 1429, 1452, 1521, 1542, 1606, 1661, 1693, 1694] : List Nat).filterMap (fun i => lw_tbl[i]?) := by decide +kernel
set_option maxRecDepth 20000 in
theorem p_cl : (clT.map (fun q => Cond.classLink (kC q.1) q.2.1 (kC q.2.2))) = ([84, 92, 121, 143, 153, 169, 175, 210, 235, 258, 274, 287, 293, 1192] : List Nat).filterMap (fun i => lw_tbl[i]?) := by decide +kernel
set_option maxRecDepth 20000 in
theorem p_code_0 : ((List.range' 0 20).map (fun y => Cond.code (nmY y) (byY y) (mxY y) (rtY y))) = ([239, 958, 979, 975, 969, 962, 125, 481, 497, 504, 521, 517, 513, 698, 214, 1144, 1166, 1170, 1149, 1154] : List Nat).filterMap (fun i => lw_tbl[i]?) := by rfl
set_option maxRecDepth 20000 in
theorem p_code_20 : ((List.range' 20 20).map (fun y => Cond.code (nmY y) (byY y) (mxY y) (rtY y))) = ([96, 379, 679, 473, 415, 426, 437, 419, 546, 902, 550, 923, 485, 430, 457, 469, 509, 442, 489, 493] : List Nat).filterMap (fun i => lw_tbl[i]?) := by rfl
set_option maxRecDepth 20000 in
theorem p_code_40 : ((List.range' 40 20).map (fun y => Cond.code (nmY y) (byY y) (mxY y) (rtY y))) = ([558, 453, 449, 465, 461, 614, 1057, 624, 671, 1077, 477, 997, 568, 735, 731, 749, 794, 157, 648, 660] : List Nat).filterMap (fun i => lw_tbl[i]?) := by rfl
set_option maxRecDepth 20000 in
theorem p_code_60 : ((List.range' 60 20).map (fun y => Cond.code (nmY y) (byY y) (mxY y) (rtY y))) = ([667, 675, 690, 694, 706, 717, 858, 862, 1085, 898, 919, 927, 906, 1073, 1094, 1098, 1102, 173, 757, 800] : List Nat).filterMap (fun i => lw_tbl[i]?) := by rfl
set_option maxRecDepth 20000 in
theorem p_code_80 : ((List.range' 80 20).map (fun y => Cond.code (nmY y) (byY y) (mxY y) (rtY y))) = ([761, 785, 809, 831, 813, 817, 825, 291, 590, 636, 632, 640, 537, 594, 597, 262, 366, 370, 1191, 533] : List Nat).filterMap (fun i => lw_tbl[i]?) := by rfl
set_option maxRecDepth 20000 in
theorem p_code_100 : ((List.range' 100 20).map (fun y => Cond.code (nmY y) (byY y) (mxY y) (rtY y))) = ([385, 389, 393, 396, 400, 404, 408, 411, 422, 433, 445, 278, 1111, 1115, 914, 910, 1131, 147, 726, 741] : List Nat).filterMap (fun i => lw_tbl[i]?) := by rfl
set_option maxRecDepth 20000 in
theorem p_code_120 : ((List.range' 120 20).map (fun y => Cond.code (nmY y) (byY y) (mxY y) (rtY y))) = ([745, 844, 849, 1039, 873, 877, 882, 886, 993, 1187, 1007, 1016, 1020, 1028, 1048, 1065, 1124, 941, 945, 948] : List Nat).filterMap (fun i => lw_tbl[i]?) := by rfl
set_option maxRecDepth 20000 in
theorem p_code_140 : ((List.range' 140 20).map (fun y => Cond.code (nmY y) (byY y) (mxY y) (rtY y))) = ([179, 767, 781, 789, 772, 776, 88, 352, 375, 541, 562, 580, 586, 604, 609, 618, 628, 644, 656, 686] : List Nat).filterMap (fun i => lw_tbl[i]?) := by rfl
set_option maxRecDepth 20000 in
theorem p_code_160 : ((List.range' 160 20).map (fun y => Cond.code (nmY y) (byY y) (mxY y) (rtY y))) = ([702, 712, 722, 753, 805, 835, 840, 854, 869, 890, 894, 937, 953, 989, 1003, 1012, 1024, 1035, 1044, 1053] : List Nat).filterMap (fun i => lw_tbl[i]?) := by rfl
set_option maxRecDepth 20000 in
theorem p_code_180 : ((List.range' 180 20).map (fun y => Cond.code (nmY y) (byY y) (mxY y) (rtY y))) = ([1061, 1069, 1081, 1090, 1107, 1120, 1135, 1140, 1174, 1178, 1182, 356, 359, 362, 500, 932, 682, 982, 985, 1196] : List Nat).filterMap (fun i => lw_tbl[i]?) := by rfl
set_option maxRecDepth 20000 in
theorem p_code_200 : ((List.range' 200 20).map (fun y => Cond.code (nmY y) (byY y) (mxY y) (rtY y))) = ([1333, 1305, 1361, 1365, 1459, 1440, 1393, 1447, 1408, 1401, 1405, 1433, 1397, 1357, 1444, 1529, 1390, 1386, 1382, 1483] : List Nat).filterMap (fun i => lw_tbl[i]?) := by rfl
set_option maxRecDepth 20000 in
theorem p_code_220 : ((List.range' 220 20).map (fun y => Cond.code (nmY y) (byY y) (mxY y) (rtY y))) = ([1495, 1373, 1377, 1369, 1475, 1301, 1317, 1328, 1320, 1324, 1313, 1353, 1349, 1309, 1345, 1341, 1337, 1412, 1416, 1420] : List Nat).filterMap (fun i => lw_tbl[i]?) := by rfl
set_option maxRecDepth 20000 in
theorem p_code_240 : ((List.range' 240 20).map (fun y => Cond.code (nmY y) (byY y) (mxY y) (rtY y))) = ([1463, 1424, 1428, 1437, 1451, 1456, 1467, 1471, 1479, 1487, 1499, 1491, 1507, 1503, 1511, 1515, 1525, 1537, 1533, 1520] : List Nat).filterMap (fun i => lw_tbl[i]?) := by rfl
set_option maxRecDepth 20000 in
theorem p_code_260 : ((List.range' 260 20).map (fun y => Cond.code (nmY y) (byY y) (mxY y) (rtY y))) = ([1550, 1546, 1554, 1541, 1558, 1562, 1570, 1566, 1574, 1582, 1578, 1586, 1594, 1590, 1601, 1598, 1612, 1609, 1605, 1620] : List Nat).filterMap (fun i => lw_tbl[i]?) := by rfl
set_option maxRecDepth 20000 in
theorem p_code_280 : ((List.range' 280 20).map (fun y => Cond.code (nmY y) (byY y) (mxY y) (rtY y))) = ([1616, 1624, 1628, 1632, 1636, 1640, 1644, 1648, 1656, 1652, 1660, 1665, 1669, 1673, 1677, 1685, 1681, 1692, 572, 528] : List Nat).filterMap (fun i => lw_tbl[i]?) := by rfl
set_option maxRecDepth 20000 in
theorem p_code_300 : ((List.range' 300 1).map (fun y => Cond.code (nmY y) (byY y) (mxY y) (rtY y))) = ([525] : List Nat).filterMap (fun i => lw_tbl[i]?) := by rfl
def initT : List Nat := [15, 11, 3, 1, 9, 4, 5, 10, 2, 0, 7, 8, 6, 12, 14, 13]
set_option maxRecDepth 20000 in
theorem p_init : (initT.map (fun c => Cond.initialized (kC c))) = ([68, 69, 70, 71, 72, 73, 74, 75, 76, 77, 78, 79, 80, 81, 82, 83] : List Nat).filterMap (fun i => lw_tbl[i]?) := by decide +kernel
def instT : List Nat := [11, 3, 1, 9, 4, 5, 10, 2, 0, 7, 8, 6, 12]
set_option maxRecDepth 20000 in
theorem p_inst : (instT.map (fun c => Cond.instantiable (kC c) (kN c))) = ([85, 93, 122, 144, 154, 170, 176, 211, 236, 259, 275, 288, 1193] : List Nat).filterMap (fun i => lw_tbl[i]?) := by decide +kernel
def virT : List Nat := (List.range nY).filter (fun y => vkY y == 0)
def staT : List Nat := (List.range 301).filter (fun y => vkY y == 1)
def iniT : List Nat := (List.range nY).filter (fun y => vkY y == 2)
set_option maxRecDepth 20000 in
theorem p_vi : (virT.map (fun y => Cond.instanceMethod (nmY y))) = ([956, 977, 973, 968, 479, 495, 503, 519, 515, 511, 696, 1142, 1164, 1168, 1148, 1153, 377, 677, 471, 413, 424, 435, 417, 544, 900, 548, 921, 483, 428, 455, 467, 507, 440, 487, 491, 556, 451, 447, 463, 460, 612, 1055, 622, 669, 1075, 475, 995, 566, 733, 729, 747, 792, 646, 658, 665, 673, 688, 692, 704, 715, 856, 860, 1083, 896, 917, 925, 905, 1071, 1092, 1097, 1101, 755, 798, 760, 784, 807, 829, 812, 816, 824, 588, 634, 630, 638, 535, 593, 364, 368, 1189, 531, 383, 388, 399, 403, 407, 1109, 1113, 912, 908, 1129, 724, 739, 743, 842, 847, 1037, 871, 876, 881, 885, 991, 1185, 1005, 1014, 1019, 1026, 1046, 1063, 1122, 939, 765, 779, 787, 775, 350, 373, 539, 560, 578, 584, 602, 607, 616, 626, 642, 654, 684, 700, 710, 720, 751, 803, 833, 838, 852, 867, 888, 892, 935, 951, 987, 1001, 1010, 1022, 1033, 1042, 1051, 1059, 1067, 1079, 1088, 1105, 1118, 1133, 1138, 1172, 1176, 1180, 355, 1304, 1360, 1364, 1400, 1404, 1432, 1396, 1356, 1443, 1528, 1389, 1385, 1381, 1482, 1494, 1372, 1376, 1368, 1474, 1299, 1316, 1327, 1323, 1312, 1352, 1348, 1307, 1344, 1340, 1336, 1411, 1414, 1418, 1462, 1422, 1426, 1435, 1449, 1454, 1465, 1469, 1477, 1485, 1498, 1489, 1506, 1501, 1509, 1513, 1524, 1536, 1532, 1518, 1549, 1545, 1553, 1539, 1556, 1560, 1569, 1564, 1572, 1581, 1576, 1584, 1593, 1588, 1596, 1603, 1619, 1614, 1622, 1626, 1630, 1634, 1638, 1642, 1646, 1655, 1650, 1658, 1663, 1667, 1671, 1675, 1684, 1679, 1690] : List Nat).filterMap (fun i => lw_tbl[i]?) := by decide +kernel
set_option maxRecDepth 20000 in
theorem p_vs : (virT.map (fun y => Cond.selects (nmY y).cls (nmY y) (nmY y))) = ([957, 978, 974, 18, 480, 496, 6, 520, 516, 512, 697, 1143, 1165, 1169, 22, 23, 378, 678, 472, 414, 425, 436, 418, 545, 901, 549, 922, 484, 429, 456, 468, 508, 441, 488, 492, 557, 452, 448, 464, 5, 613, 1056, 623, 670, 1076, 476, 996, 567, 734, 730, 748, 793, 647, 659, 666, 674, 689, 693, 705, 716, 857, 861, 1084, 897, 918, 926, 17, 1072, 1093, 20, 21, 756, 799, 8, 10, 808, 830, 11, 12, 13, 589, 635, 631, 639, 536, 7, 365, 369, 1190, 532, 384, 1, 2, 3, 4, 1110, 1114, 913, 909, 1130, 725, 740, 744, 843, 848, 1038, 872, 14, 15, 16, 992, 1186, 1006, 1015, 19, 1027, 1047, 1064, 1123, 940, 766, 780, 788, 9, 351, 374, 540, 561, 579, 585, 603, 608, 617, 627, 643, 655, 685, 701, 711, 721, 752, 804, 834, 839, 853, 868, 889, 893, 936, 952, 988, 1002, 1011, 1023, 1034, 1043, 1052, 1060, 1068, 1080, 1089, 1106, 1119, 1134, 1139, 1173, 1177, 1181, 0, 24, 35, 36, 44, 45, 47, 43, 34, 48, 56, 42, 41, 40, 51, 52, 38, 39, 37, 50, 1300, 26, 28, 27, 25, 33, 32, 1308, 31, 30, 29, 46, 1415, 1419, 49, 1423, 1427, 1436, 1450, 1455, 1466, 1470, 1478, 1486, 53, 1490, 54, 1502, 1510, 1514, 55, 58, 57, 1519, 60, 59, 61, 1540, 1557, 1561, 62, 1565, 1573, 63, 1577, 1585, 64, 1589, 1597, 1604, 65, 1615, 1623, 1627, 1631, 1635, 1639, 1643, 1647, 66, 1651, 1659, 1664, 1668, 1672, 1676, 67, 1680, 1691] : List Nat).filterMap (fun i => lw_tbl[i]?) := by decide +kernel
set_option maxRecDepth 20000 in
theorem p_st : (staT.map (fun y => Cond.static (nmY y))) = ([961, 596, 392, 395, 410, 421, 432, 444, 944, 947, 771, 358, 361, 499, 931, 681, 981, 984, 1332, 1458, 1439, 1392, 1446, 1407, 1319, 1600, 1611, 1608, 571, 527, 524] : List Nat).filterMap (fun i => lw_tbl[i]?) := by decide +kernel
set_option maxRecDepth 20000 in
theorem p_in : (iniT.map (fun y => Cond.instanceMethod (nmY y))) = ([238, 124, 213, 95, 156, 172, 290, 261, 277, 146, 178, 87, 1195] : List Nat).filterMap (fun i => lw_tbl[i]?) := by decide +kernel
set_option maxRecDepth 20000 in
theorem p_oi : ([Cond.instanceMethod objectInit, Cond.code objectInit ⟨#[0xb1]⟩ 1 none, Cond.arrayClass .int, Cond.arrayClass .long] : List Cond) = ([90, 91, 120, 257] : List Nat).filterMap (fun i => lw_tbl[i]?) := by decide +kernel
set_option maxRecDepth 20000 in
theorem p_ao : lw_tbl[294]? = some (Cond.arrayOver (.object (kC 3))) := by decide +kernel
set_option maxRecDepth 20000 in
theorem p_lay : ((List.range 13).flatMap (fun i => u_ws (kC i) (kT i) (kN i))) = ([246, 248, 250, 252, 254, 132, 134, 136, 138, 140, 222, 224, 226, 228, 230, 232, 105, 107, 109, 111, 113, 115, 117, 162, 164, 166, 199, 201, 203, 205, 207, 299, 301, 303, 267, 269, 271, 282, 284, 150, 185, 187, 189, 191, 320, 322, 324, 326, 328, 330, 332, 334, 336, 338, 340, 342, 344, 346, 1231, 1233, 1235, 1237, 1239, 1241, 1243, 1245, 1247, 1249, 1251, 1253, 1255, 1257, 1259, 1261, 1263, 1265, 1267, 1269, 1271, 1273, 1275, 1277, 1279, 1281, 1283, 1285, 1287, 1289, 1291, 1293, 1295] : List Nat).filterMap (fun i => lw_tbl[i]?) := by decide +kernel
