/-! printed: the classes, their fields, the methods, the links, and where their words stand in lw_tbl -/
def mCs : List String := ["PorterDoors", "PorterDoors$Ahead", "PorterDoors$Hall", "PorterDoors$Past", "PorterDoors$Plan", "PorterDoors$Program", "PorterDoors$Reader", "PorterDoors$Rounds", "PorterDoors$Sets", "PorterDoors$Sums", "PorterDoorsModel", "PorterDoors$Words", "PorterDoorsLaw", "java/lang/Integer", "java/lang/Math", "java/lang/System"]
def mC (i : Nat) : String := mCs.getD i ""
def mF0 : u_T := fun k => match k with
  | 0 => ("PorterDoors", "tape", "[I", true)
  | 1 => ("PorterDoors", "taped", "I", false)
  | 2 => ("PorterDoors", "told", "LPorterDoors$Plan;", true)
  | 3 => ("PorterDoors", "draft", "LPorterDoors$Plan;", true)
  | 4 => ("PorterDoors", "question", "LPorterDoors$Program;", true)
  | 5 => ("PorterDoors", "reader", "LPorterDoors$Reader;", true)
  | 6 => ("PorterDoors", "hall", "LPorterDoors$Hall;", true)
  | 7 => ("PorterDoors", "trial", "LPorterDoors$Hall;", true)
  | 8 => ("PorterDoors", "past", "LPorterDoors$Past;", true)
  | 9 => ("PorterDoors", "sums", "LPorterDoors$Sums;", true)
  | 10 => ("PorterDoors", "rounds", "LPorterDoors$Rounds;", true)
  | 11 => ("PorterDoors", "ahead", "LPorterDoors$Ahead;", true)
  | 12 => ("PorterDoors", "sets", "LPorterDoors$Sets;", true)
  | 13 => ("PorterDoors", "image", "[I", true)
  | 14 => ("PorterDoors", "imageSize", "I", false)
  | 15 => ("PorterDoors", "refused", "[I", true)
  | _ => ("PorterDoors", "seed", "I", false)
def mF1 : u_T := fun k => match k with
  | 0 => ("PorterDoors$Ahead", "now", "LPorterDoors$Hall;", true)
  | 1 => ("PorterDoors$Ahead", "then", "LPorterDoors$Hall;", true)
  | 2 => ("PorterDoors$Ahead", "rounds", "LPorterDoors$Rounds;", true)
  | 3 => ("PorterDoors$Ahead", "open", "[I", true)
  | 4 => ("PorterDoors$Ahead", "cold", "[I", true)
  | _ => ("PorterDoors$Ahead", "reached", "I", false)
def mF2 : u_T := fun k => match k with
  | _ => ("PorterDoors$Hall", "row", "[I", true)
def mF3 : u_T := fun k => match k with
  | 0 => ("PorterDoors$Past", "rows", "[I", true)
  | 1 => ("PorterDoors$Past", "next", "I", false)
  | _ => ("PorterDoors$Past", "count", "I", false)
def mF4 : u_T := fun k => match k with
  | 0 => ("PorterDoors$Plan", "doors", "I", false)
  | 1 => ("PorterDoors$Plan", "porters", "I", false)
  | 2 => ("PorterDoors$Plan", "stiff", "I", false)
  | 3 => ("PorterDoors$Plan", "ill", "I", false)
  | 4 => ("PorterDoors$Plan", "open", "I", false)
  | 5 => ("PorterDoors$Plan", "paint", "[I", true)
  | 6 => ("PorterDoors$Plan", "names", "[J", true)
  | 7 => ("PorterDoors$Plan", "program", "LPorterDoors$Program;", true)
  | 8 => ("PorterDoors$Plan", "from", "[I", true)
  | 9 => ("PorterDoors$Plan", "to", "[I", true)
  | 10 => ("PorterDoors$Plan", "byNight", "I", false)
  | 11 => ("PorterDoors$Plan", "walksTold", "Z", false)
  | _ => ("PorterDoors$Plan", "coldTold", "Z", false)
def mF5 : u_T := fun k => match k with
  | 0 => ("PorterDoors$Program", "steps", "[I", true)
  | _ => ("PorterDoors$Program", "size", "I", false)
def mF6 : u_T := fun k => match k with
  | 0 => ("PorterDoors$Reader", "text", "[I", true)
  | 1 => ("PorterDoors$Reader", "plan", "LPorterDoors$Plan;", true)
  | 2 => ("PorterDoors$Reader", "out", "LPorterDoors$Program;", false)
  | 3 => ("PorterDoors$Reader", "length", "I", false)
  | 4 => ("PorterDoors$Reader", "at", "I", false)
  | 5 => ("PorterDoors$Reader", "kind", "I", false)
  | 6 => ("PorterDoors$Reader", "start", "I", false)
  | 7 => ("PorterDoors$Reader", "size", "I", false)
  | 8 => ("PorterDoors$Reader", "value", "I", false)
  | 9 => ("PorterDoors$Reader", "spelled", "J", false)
  | 10 => ("PorterDoors$Reader", "allowed", "I", false)
  | 11 => ("PorterDoors$Reader", "opened", "I", false)
  | 12 => ("PorterDoors$Reader", "fault", "I", false)
  | _ => ("PorterDoors$Reader", "place", "I", false)
def mF7 : u_T := fun k => match k with
  | 0 => ("PorterDoors$Rounds", "plan", "LPorterDoors$Plan;", true)
  | 1 => ("PorterDoors$Rounds", "sums", "LPorterDoors$Sums;", true)
  | 2 => ("PorterDoors$Rounds", "orders", "[I", true)
  | _ => ("PorterDoors$Rounds", "known", "[I", true)
def mF8 : u_T := fun k => match k with
  | 0 => ("PorterDoors$Sets", "plan", "LPorterDoors$Plan;", true)
  | 1 => ("PorterDoors$Sets", "hall", "LPorterDoors$Hall;", true)
  | 2 => ("PorterDoors$Sets", "rounds", "LPorterDoors$Rounds;", true)
  | 3 => ("PorterDoors$Sets", "reckoned", "Z", false)
  | 4 => ("PorterDoors$Sets", "count", "I", false)
  | 5 => ("PorterDoors$Sets", "changed", "[I", true)
  | 6 => ("PorterDoors$Sets", "fitCount", "I", false)
  | 7 => ("PorterDoors$Sets", "fitting", "[I", true)
  | 8 => ("PorterDoors$Sets", "seenRows", "I", false)
  | 9 => ("PorterDoors$Sets", "seenOpen", "I", false)
  | _ => ("PorterDoors$Sets", "seenShut", "I", false)
def mF9 : u_T := fun k => match k with
  | 0 => ("PorterDoors$Sums", "given", "[I", true)
  | 1 => ("PorterDoors$Sums", "orders", "[I", true)
  | 2 => ("PorterDoors$Sums", "open", "I", false)
  | _ => ("PorterDoors$Sums", "stack", "[I", true)
def mF10 : u_T := fun k => match k with
  | 0 => ("PorterDoorsModel", "tape", "[I", true)
  | 1 => ("PorterDoorsModel", "taped", "I", false)
  | 2 => ("PorterDoorsModel", "at", "I", false)
  | 3 => ("PorterDoorsModel", "end", "I", false)
  | 4 => ("PorterDoorsModel", "ended", "I", false)
  | 5 => ("PorterDoorsModel", "bad", "I", false)
  | 6 => ("PorterDoorsModel", "badPlace", "I", false)
  | 7 => ("PorterDoorsModel", "fault", "I", false)
  | 8 => ("PorterDoorsModel", "faultPlace", "I", false)
  | 9 => ("PorterDoorsModel", "refused", "[I", true)
  | 10 => ("PorterDoorsModel", "numberPlace", "I", false)
  | 11 => ("PorterDoorsModel", "doorsWord", "[C", true)
  | 12 => ("PorterDoorsModel", "porterWord", "[C", true)
  | 13 => ("PorterDoorsModel", "turnsWord", "[C", true)
  | 14 => ("PorterDoorsModel", "paintWord", "[C", true)
  | 15 => ("PorterDoorsModel", "openWord", "[C", true)
  | 16 => ("PorterDoorsModel", "stiffWord", "[C", true)
  | 17 => ("PorterDoorsModel", "walksWord", "[C", true)
  | 18 => ("PorterDoorsModel", "coldWord", "[C", true)
  | 19 => ("PorterDoorsModel", "illWord", "[C", true)
  | 20 => ("PorterDoorsModel", "numberWord", "[C", true)
  | 21 => ("PorterDoorsModel", "colourWord", "[C", true)
  | 22 => ("PorterDoorsModel", "turnedWord", "[C", true)
  | 23 => ("PorterDoorsModel", "whoWord", "[C", true)
  | 24 => ("PorterDoorsModel", "nightWord", "[C", true)
  | 25 => ("PorterDoorsModel", "openedWord", "[C", true)
  | 26 => ("PorterDoorsModel", "tiredWord", "[C", true)
  | 27 => ("PorterDoorsModel", "jammedWord", "[C", true)
  | 28 => ("PorterDoorsModel", "byWord", "[C", true)
  | 29 => ("PorterDoorsModel", "nearWord", "[C", true)
  | 30 => ("PorterDoorsModel", "orWord", "[C", true)
  | 31 => ("PorterDoorsModel", "andWord", "[C", true)
  | 32 => ("PorterDoorsModel", "notWord", "[C", true)
  | 33 => ("PorterDoorsModel", "allWord", "[C", true)
  | 34 => ("PorterDoorsModel", "minWord", "[C", true)
  | 35 => ("PorterDoorsModel", "maxWord", "[C", true)
  | 36 => ("PorterDoorsModel", "namePlace", "I", false)
  | 37 => ("PorterDoorsModel", "many", "[I", true)
  | 38 => ("PorterDoorsModel", "names", "[J", true)
  | 39 => ("PorterDoorsModel", "paint0", "[I", true)
  | 40 => ("PorterDoorsModel", "open0", "I", false)
  | 41 => ("PorterDoorsModel", "codeFrom", "[I", true)
  | 42 => ("PorterDoorsModel", "codeEnd", "[I", true)
  | 43 => ("PorterDoorsModel", "codes", "[I", true)
  | 44 => ("PorterDoorsModel", "coded", "I", false)
  | 45 => ("PorterDoorsModel", "statements", "I", false)
  | 46 => ("PorterDoorsModel", "isTold", "Z", false)
  | 47 => ("PorterDoorsModel", "textKind", "I", false)
  | 48 => ("PorterDoorsModel", "now", "[I", true)
  | 49 => ("PorterDoorsModel", "askDoor", "I", false)
  | 50 => ("PorterDoorsModel", "askPorter", "I", false)
  | 51 => ("PorterDoorsModel", "orders", "[I", true)
  | 52 => ("PorterDoorsModel", "walkedMany", "I", false)
  | 53 => ("PorterDoorsModel", "isThought", "Z", false)
  | 54 => ("PorterDoorsModel", "aside", "[I", true)
  | 55 => ("PorterDoorsModel", "rowMany", "I", false)
  | 56 => ("PorterDoorsModel", "rows", "[I", true)
  | 57 => ("PorterDoorsModel", "fitting", "[Z", true)
  | 58 => ("PorterDoorsModel", "openBy", "[I", true)
  | 59 => ("PorterDoorsModel", "fitMany", "I", false)
  | 60 => ("PorterDoorsModel", "kept0", "[I", true)
  | 61 => ("PorterDoorsModel", "undoable", "I", false)
  | 62 => ("PorterDoorsModel", "newest", "I", false)
  | 63 => ("PorterDoorsModel", "seeded", "J", false)
  | 64 => ("PorterDoorsModel", "firstAsked", "[C", true)
  | 65 => ("PorterDoorsModel", "lastAsked", "[C", true)
  | 66 => ("PorterDoorsModel", "oftenAsked", "[C", true)
  | 67 => ("PorterDoorsModel", "totalAsked", "[C", true)
  | 68 => ("PorterDoorsModel", "mostAsked", "[C", true)
  | 69 => ("PorterDoorsModel", "leastAsked", "[C", true)
  | 70 => ("PorterDoorsModel", "notAsked", "[C", true)
  | 71 => ("PorterDoorsModel", "andAsked", "[C", true)
  | 72 => ("PorterDoorsModel", "orAsked", "[C", true)
  | 73 => ("PorterDoorsModel", "allAsked", "[C", true)
  | 74 => ("PorterDoorsModel", "minAsked", "[C", true)
  | 75 => ("PorterDoorsModel", "maxAsked", "[C", true)
  | 76 => ("PorterDoorsModel", "nightAsked", "[C", true)
  | 77 => ("PorterDoorsModel", "numberAsked", "[C", true)
  | 78 => ("PorterDoorsModel", "colourAsked", "[C", true)
  | 79 => ("PorterDoorsModel", "openAsked", "[C", true)
  | 80 => ("PorterDoorsModel", "turnedAsked", "[C", true)
  | 81 => ("PorterDoorsModel", "whoAsked", "[C", true)
  | 82 => ("PorterDoorsModel", "openedAsked", "[C", true)
  | 83 => ("PorterDoorsModel", "tiredAsked", "[C", true)
  | 84 => ("PorterDoorsModel", "jammedAsked", "[C", true)
  | 85 => ("PorterDoorsModel", "byAsked", "[C", true)
  | 86 => ("PorterDoorsModel", "nearAsked", "[C", true)
  | 87 => ("PorterDoorsModel", "qCodes", "[I", true)
  | 88 => ("PorterDoorsModel", "qCoded", "I", false)
  | 89 => ("PorterDoorsModel", "qWait", "[I", true)
  | 90 => ("PorterDoorsModel", "qWaits", "I", false)
  | 91 => ("PorterDoorsModel", "qOpened", "I", false)
  | 92 => ("PorterDoorsModel", "qBase", "I", false)
  | 93 => ("PorterDoorsModel", "qPile", "[J", true)
  | 94 => ("PorterDoorsModel", "qPiled", "I", false)
  | 95 => ("PorterDoorsModel", "qAnswer", "J", false)
  | 96 => ("PorterDoorsModel", "qIsNew", "Z", false)
  | 97 => ("PorterDoorsModel", "octet", "[I", true)
  | _ => ("PorterDoorsModel", "octets", "I", false)
def mcl : List vw_C := [("PorterDoors", mF0, 17), ("PorterDoors$Ahead", mF1, 6), ("PorterDoors$Hall", mF2, 1), ("PorterDoors$Past", mF3, 3), ("PorterDoors$Plan", mF4, 13), ("PorterDoors$Program", mF5, 2), ("PorterDoors$Reader", mF6, 14), ("PorterDoors$Rounds", mF7, 4), ("PorterDoors$Sets", mF8, 11), ("PorterDoors$Sums", mF9, 4), ("PorterDoorsModel", mF10, 99)]
/-- the kind of a field: 0 an int, 1 a long, 2 a reference, 3 a boolean -/
def mKn : Nat := 8130416799943158783550645783709217260883924935570184179601654122014707142701333451909215695407156937301724511537162370050901064566345243573697361480092702474409121298943064792606026401827155871234499482443437426373860031611747903805690120086868729978865013155318136283720458192868256691390568549637215662422912232385318686899991393284031850248393851456279196559350401353098588890877951324673817151833487674398169779808356079455721300559105588734384365088807333405032347668923230761228880593699285837325173661545777674458880681682296490825792016683354139638073223219941314943721205539400166054087054389752761742123182005109614070148625318438003115666910770539170
def mKd (ci k : Nat) : Nat := Nat.mod (Nat.shiftRight mKn (2 * (100 * ci + k))) 4
def mFT (d : String) : FieldType := (parseFieldDescriptor d).getD .int
/-- name, bytes, locals, what it answers, its class, places of the words code and initialized, how it is called (0 static, 1 virtual, 2 a constructor), its parameters, two more places -/
abbrev mI : Type := MethodName × ByteArray × Nat × Option FieldType × Nat × Nat × Nat × Nat × Nat × Nat × Nat
def mT0 : List mI := [(⟨"PorterDoors", "<init>", "()V"⟩, prog_1_method_1_code, 1, none, 0, 148, 129, 2, 0, 147, 0),
  (⟨"PorterDoors", "feed", "(IIIII)I"⟩, prog_1_method_2_code, 6, (some .int), 0, 498, 129, 1, 5, 496, 497),
  (⟨"PorterDoors", "refuse", "(I)Z"⟩, prog_1_method_40_code, 2, (some .boolean), 0, 502, 129, 1, 1, 501, 0),
  (⟨"PorterDoors", "tapeNumber", "(I)V"⟩, prog_1_method_47_code, 3, none, 0, 506, 129, 1, 1, 505, 1),
  (⟨"PorterDoors", "end", "(I)Z"⟩, prog_1_method_3_code, 2, (some .boolean), 0, 510, 129, 1, 1, 508, 509),
  (⟨"PorterDoors", "corridor", "()I"⟩, prog_1_method_4_code, 2, (some .int), 0, 514, 129, 1, 0, 512, 513),
  (⟨"PorterDoors", "takeTape", "()I"⟩, prog_1_method_48_code, 2, (some .int), 0, 534, 129, 1, 0, 533, 2),
  (⟨"PorterDoors", "forgetReckoned", "()V"⟩, prog_1_method_46_code, 1, none, 0, 660, 129, 1, 0, 659, 19),
  (⟨"PorterDoors", "fault", "(I)I"⟩, prog_1_method_5_code, 2, (some .int), 0, 676, 129, 1, 1, 674, 675),
  (⟨"PorterDoors", "has", "(I)I"⟩, prog_1_method_6_code, 2, (some .int), 0, 680, 129, 1, 1, 678, 679),
  (⟨"PorterDoors", "jammedDoors", "()I"⟩, prog_1_method_49_code, 3, (some .int), 0, 694, 129, 1, 0, 693, 20),
  (⟨"PorterDoors", "letter", "(II)I"⟩, prog_1_method_7_code, 3, (some .int), 0, 707, 129, 1, 2, 705, 706),
  (⟨"PorterDoors", "isPorter", "(I)Z"⟩, prog_1_method_43_code, 2, (some .boolean), 0, 711, 129, 1, 1, 710, 21),
  (⟨"PorterDoors", "door", "(II)I"⟩, prog_1_method_8_code, 3, (some .int), 0, 719, 129, 1, 2, 717, 718),
  (⟨"PorterDoors", "isDoor", "(I)Z"⟩, prog_1_method_42_code, 2, (some .boolean), 0, 723, 129, 1, 1, 722, 22),
  (⟨"PorterDoors", "portersOf", "(I)I"⟩, prog_1_method_50_code, 4, (some .int), 0, 731, 129, 1, 1, 730, 23),
  (⟨"PorterDoors", "porter", "(II)I"⟩, prog_1_method_9_code, 3, (some .int), 0, 776, 129, 1, 2, 774, 775),
  (⟨"PorterDoors", "order", "(I)I"⟩, prog_1_method_10_code, 2, (some .int), 0, 790, 129, 1, 1, 788, 789),
  (⟨"PorterDoors", "kept", "(II)I"⟩, prog_1_method_11_code, 3, (some .int), 0, 794, 129, 1, 2, 792, 793),
  (⟨"PorterDoors", "later", "(I)I"⟩, prog_1_method_12_code, 2, (some .int), 0, 803, 129, 1, 1, 801, 802),
  (⟨"PorterDoors", "isTold", "()Z"⟩, prog_1_method_41_code, 1, (some .boolean), 0, 807, 129, 1, 0, 806, 25),
  (⟨"PorterDoors", "cold", "(I)I"⟩, prog_1_method_13_code, 2, (some .int), 0, 845, 129, 1, 1, 843, 844),
  (⟨"PorterDoors", "back", "()I"⟩, prog_1_method_14_code, 3, (some .int), 0, 849, 129, 1, 0, 847, 848),
  (⟨"PorterDoors", "row", "()I"⟩, prog_1_method_15_code, 4, (some .int), 0, 853, 129, 1, 0, 851, 852),
  (⟨"PorterDoors", "changes", "(I)I"⟩, prog_1_method_16_code, 2, (some .int), 0, 858, 129, 1, 1, 856, 857),
  (⟨"PorterDoors", "sends", "(II)I"⟩, prog_1_method_17_code, 4, (some .int), 0, 875, 129, 1, 2, 873, 874),
  (⟨"PorterDoors", "allDoors", "()I"⟩, prog_1_method_45_code, 1, (some .int), 0, 879, 129, 1, 0, 878, 29),
  (⟨"PorterDoors", "alike", "()I"⟩, prog_1_method_18_code, 1, (some .int), 0, 892, 129, 1, 0, 890, 891),
  (⟨"PorterDoors", "alone", "(I)I"⟩, prog_1_method_19_code, 2, (some .int), 0, 900, 129, 1, 1, 898, 899),
  (⟨"PorterDoors", "widest", "(I)I"⟩, prog_1_method_20_code, 3, (some .int), 0, 904, 129, 1, 1, 902, 903),
  (⟨"PorterDoors", "rest", "(II)I"⟩, prog_1_method_21_code, 7, (some .int), 0, 917, 129, 1, 2, 915, 916),
  (⟨"PorterDoors", "isWithinNights", "(I)Z"⟩, prog_1_method_44_code, 2, (some .boolean), 0, 921, 129, 1, 1, 920, 30),
  (⟨"PorterDoors", "coldWithout", "(II)I"⟩, prog_1_method_51_code, 4, (some .int), 0, 925, 129, 1, 2, 924, 31),
  (⟨"PorterDoors", "odds", "(I)I"⟩, prog_1_method_22_code, 4, (some .int), 0, 931, 129, 1, 1, 929, 930),
  (⟨"PorterDoors", "openWithout", "(II)I"⟩, prog_1_method_52_code, 3, (some .int), 0, 935, 129, 1, 2, 934, 32),
  (⟨"PorterDoors", "see", "()I"⟩, prog_1_method_23_code, 3, (some .int), 0, 939, 129, 1, 0, 937, 938),
  (⟨"PorterDoors", "isSeeing", "(I)Z"⟩, prog_1_method_53_code, 3, (some .boolean), 0, 943, 129, 1, 1, 942, 33),
  (⟨"PorterDoors", "fits", "(I)I"⟩, prog_1_method_24_code, 2, (some .int), 0, 951, 129, 1, 1, 949, 950),
  (⟨"PorterDoors", "walked", "(I)I"⟩, prog_1_method_25_code, 3, (some .int), 0, 955, 129, 1, 1, 953, 954),
  (⟨"PorterDoors", "tells", "(I)I"⟩, prog_1_method_26_code, 3, (some .int), 0, 963, 129, 1, 1, 961, 962)]
def mT1 : List mI := [(⟨"PorterDoors", "send", "(I)I"⟩, prog_1_method_27_code, 3, (some .int), 0, 977, 129, 1, 1, 975, 976),
  (⟨"PorterDoors", "turn", "(I)Z"⟩, prog_1_method_28_code, 2, (some .boolean), 0, 988, 129, 1, 1, 986, 987),
  (⟨"PorterDoors", "oil", "(I)Z"⟩, prog_1_method_29_code, 2, (some .boolean), 0, 993, 129, 1, 1, 991, 992),
  (⟨"PorterDoors", "paint", "(II)Z"⟩, prog_1_method_30_code, 3, (some .boolean), 0, 997, 129, 1, 2, 995, 996),
  (⟨"PorterDoors", "nights", "(I)I"⟩, prog_1_method_31_code, 4, (some .int), 0, 1001, 129, 1, 1, 999, 1000),
  (⟨"PorterDoors", "chance", "(I)I"⟩, prog_1_method_32_code, 5, (some .int), 0, 1005, 129, 1, 1, 1003, 1004),
  (⟨"PorterDoors", "drawIll", "()I"⟩, prog_1_method_54_code, 2, (some .int), 0, 1009, 129, 1, 0, 1008, 34),
  (⟨"PorterDoors", "draw", "(I)I"⟩, prog_1_method_55_code, 2, (some .int), 0, 1013, 129, 1, 1, 1012, 35),
  (⟨"PorterDoors", "undo", "()Z"⟩, prog_1_method_33_code, 1, (some .boolean), 0, 1020, 129, 1, 0, 1018, 1019),
  (⟨"PorterDoors", "seed", "(I)Z"⟩, prog_1_method_34_code, 2, (some .boolean), 0, 1028, 129, 1, 1, 1026, 1027),
  (⟨"PorterDoors", "ask", "()J"⟩, prog_1_method_35_code, 3, (some .long), 0, 1032, 129, 1, 0, 1030, 1031),
  (⟨"PorterDoors", "answerTo", "(I)J"⟩, prog_1_method_56_code, 11, (some .long), 0, 1042, 129, 1, 1, 1041, 36),
  (⟨"PorterDoors", "image", "()I"⟩, prog_1_method_36_code, 3, (some .int), 0, 1055, 129, 1, 0, 1053, 1054),
  (⟨"PorterDoors", "write", "(II)V"⟩, prog_1_method_57_code, 4, none, 0, 1059, 129, 1, 2, 1058, 37),
  (⟨"PorterDoors", "checkOf", "([II)I"⟩, prog_1_method_58_code, 4, (some .int), 0, 1062, 129, 0, 2, 1061, 0),
  (⟨"PorterDoors", "octet", "(I)I"⟩, prog_1_method_37_code, 2, (some .int), 0, 1066, 129, 1, 1, 1064, 1065),
  (⟨"PorterDoors", "on", "()Z"⟩, prog_1_method_38_code, 2, (some .boolean), 0, 1070, 129, 1, 0, 1068, 1069),
  (⟨"PorterDoors", "isImage", "(I)Z"⟩, prog_1_method_61_code, 4, (some .boolean), 0, 1074, 129, 1, 1, 1073, 38),
  (⟨"PorterDoors", "tapedNight", "()I"⟩, prog_1_method_59_code, 1, (some .int), 0, 1078, 129, 1, 0, 1077, 39),
  (⟨"PorterDoors", "tapedCold", "()I"⟩, prog_1_method_60_code, 1, (some .int), 0, 1082, 129, 1, 0, 1081, 40),
  (⟨"PorterDoors", "takeImage", "()V"⟩, prog_1_method_62_code, 4, none, 0, 1087, 129, 1, 0, 1086, 41),
  (⟨"PorterDoors", "status", "(I)I"⟩, prog_1_method_39_code, 2, (some .int), 0, 1091, 129, 1, 1, 1089, 1090),
  (⟨"PorterDoors$Ahead", "<init>", "(LPorterDoors$Hall;LPorterDoors$Rounds;)V"⟩, prog_2_method_1_code, 3, none, 1, 373, 137, 2, 2, 372, 0),
  (⟨"PorterDoors$Ahead", "forget", "()V"⟩, prog_2_method_2_code, 1, none, 1, 668, 137, 1, 0, 666, 667),
  (⟨"PorterDoors$Ahead", "reaches", "(I)Z"⟩, prog_2_method_3_code, 2, (some .boolean), 1, 811, 137, 1, 1, 809, 810),
  (⟨"PorterDoors$Hall", "<init>", "()V"⟩, prog_3_method_1_code, 1, none, 2, 300, 133, 2, 0, 299, 0),
  (⟨"PorterDoors$Hall", "begin", "(LPorterDoors$Plan;)V"⟩, prog_3_method_2_code, 3, none, 2, 647, 133, 1, 1, 645, 646),
  (⟨"PorterDoors$Hall", "opened", "()I"⟩, prog_3_method_5_code, 1, (some .int), 2, 684, 133, 1, 0, 682, 683),
  (⟨"PorterDoors$Hall", "isJammed", "(II)Z"⟩, prog_3_method_6_code, 3, (some .boolean), 2, 698, 133, 1, 2, 696, 697),
  (⟨"PorterDoors$Hall", "keptTold", "()I"⟩, prog_3_method_9_code, 1, (some .int), 2, 702, 133, 1, 0, 700, 701),
  (⟨"PorterDoors$Hall", "isOpen", "(I)I"⟩, prog_3_method_4_code, 2, (some .int), 2, 727, 133, 1, 1, 725, 726),
  (⟨"PorterDoors$Hall", "keptAt", "(II)I"⟩, prog_3_method_10_code, 5, (some .int), 2, 798, 133, 1, 2, 796, 797),
  (⟨"PorterDoors$Hall", "copy", "(LPorterDoors$Hall;)V"⟩, prog_3_method_3_code, 2, none, 2, 815, 133, 1, 1, 813, 814),
  (⟨"PorterDoors$Hall", "swing", "(II)Z"⟩, prog_3_method_7_code, 3, (some .boolean), 2, 829, 133, 1, 2, 827, 828),
  (⟨"PorterDoors$Hall", "keepWalk", "(II)V"⟩, prog_3_method_8_code, 4, none, 2, 834, 133, 1, 2, 832, 833),
  (⟨"PorterDoors$Past", "<init>", "()V"⟩, prog_4_method_1_code, 1, none, 3, 316, 134, 2, 0, 315, 0),
  (⟨"PorterDoors$Past", "forget", "()V"⟩, prog_4_method_2_code, 1, none, 3, 652, 134, 1, 0, 650, 651),
  (⟨"PorterDoors$Past", "keep", "(LPorterDoors$Hall;)V"⟩, prog_4_method_3_code, 2, none, 3, 981, 134, 1, 1, 979, 980),
  (⟨"PorterDoors$Past", "giveBack", "(LPorterDoors$Hall;)V"⟩, prog_4_method_4_code, 2, none, 3, 1024, 134, 1, 1, 1022, 1023),
  (⟨"PorterDoors$Plan", "<init>", "()V"⟩, prog_5_method_1_code, 1, none, 4, 156, 130, 2, 0, 155, 0)]
def mT2 : List mI := [(⟨"PorterDoors$Plan", "clear", "()V"⟩, prog_5_method_2_code, 2, none, 4, 518, 130, 1, 0, 516, 517),
  (⟨"PorterDoors$Plan", "place", "(II)V"⟩, prog_5_method_3_code, 3, none, 4, 526, 130, 1, 2, 524, 525),
  (⟨"PorterDoors$Plan", "hasName", "(JI)Z"⟩, prog_5_method_4_code, 7, (some .boolean), 4, 584, 130, 1, 2, 582, 583),
  (⟨"PorterDoors$Plan", "fullName", "(JI)J"⟩, prog_5_method_6_code, 6, (some .long), 4, 587, 130, 0, 2, 586, 0),
  (⟨"PorterDoors$Plan", "addName", "(JI)V"⟩, prog_5_method_5_code, 4, none, 4, 592, 130, 1, 2, 590, 591),
  (⟨"PorterDoors$Plan", "copy", "(LPorterDoors$Plan;)V"⟩, prog_5_method_8_code, 2, none, 4, 635, 130, 1, 1, 633, 634),
  (⟨"PorterDoors$Plan", "letterOf", "(II)I"⟩, prog_5_method_7_code, 6, (some .int), 4, 715, 130, 1, 2, 713, 714),
  (⟨"PorterDoors$Program", "<init>", "()V"⟩, prog_6_method_1_code, 1, none, 5, 162, 131, 2, 0, 161, 0),
  (⟨"PorterDoors$Program", "add", "(I)V"⟩, prog_6_method_2_code, 2, none, 5, 522, 131, 1, 1, 520, 521),
  (⟨"PorterDoors$Program", "hasWord", "(III)Z"⟩, prog_6_method_3_code, 5, (some .boolean), 5, 530, 131, 1, 3, 528, 529),
  (⟨"PorterDoors$Program", "copy", "(LPorterDoors$Program;)V"⟩, prog_6_method_4_code, 2, none, 5, 642, 131, 1, 1, 640, 641),
  (⟨"PorterDoors$Reader", "<init>", "([ILPorterDoors$Plan;)V"⟩, prog_7_method_1_code, 3, none, 6, 249, 132, 2, 2, 248, 0),
  (⟨"PorterDoors$Reader", "begin", "(ILPorterDoors$Program;)V"⟩, prog_7_method_2_code, 3, none, 6, 538, 132, 1, 2, 536, 537),
  (⟨"PorterDoors$Reader", "advance", "()V"⟩, prog_7_method_19_code, 2, none, 6, 545, 132, 1, 0, 544, 3),
  (⟨"PorterDoors$Reader", "readWord", "()V"⟩, prog_7_method_20_code, 2, none, 6, 549, 132, 1, 0, 548, 4),
  (⟨"PorterDoors$Reader", "readNumber", "()V"⟩, prog_7_method_21_code, 1, none, 6, 556, 132, 1, 0, 555, 5),
  (⟨"PorterDoors$Reader", "hasMore", "()Z"⟩, prog_7_method_3_code, 1, (some .boolean), 6, 560, 132, 1, 0, 558, 559),
  (⟨"PorterDoors$Reader", "statement", "(I)V"⟩, prog_7_method_4_code, 5, none, 6, 564, 132, 1, 1, 562, 563),
  (⟨"PorterDoors$Reader", "word", "()I"⟩, prog_7_method_17_code, 1, (some .int), 6, 568, 132, 1, 0, 567, 6),
  (⟨"PorterDoors$Reader", "isOneTooMany", "(I)Z"⟩, prog_7_method_5_code, 2, (some .boolean), 6, 572, 132, 1, 1, 571, 7),
  (⟨"PorterDoors$Reader", "fail", "(II)V"⟩, prog_7_method_18_code, 3, none, 6, 576, 132, 1, 2, 575, 8),
  (⟨"PorterDoors$Reader", "name", "()V"⟩, prog_7_method_7_code, 2, none, 6, 580, 132, 1, 0, 579, 9),
  (⟨"PorterDoors$Reader", "test", "()V"⟩, prog_7_method_10_code, 4, none, 6, 596, 132, 1, 0, 595, 10),
  (⟨"PorterDoors$Reader", "fact", "()V"⟩, prog_7_method_11_code, 2, none, 6, 600, 132, 1, 0, 599, 11),
  (⟨"PorterDoors$Reader", "enters", "()Z"⟩, prog_7_method_15_code, 1, (some .boolean), 6, 604, 132, 1, 0, 603, 12),
  (⟨"PorterDoors$Reader", "expect", "(I)V"⟩, prog_7_method_16_code, 2, none, 6, 609, 132, 1, 1, 608, 13),
  (⟨"PorterDoors$Reader", "sum", "()V"⟩, prog_7_method_12_code, 6, none, 6, 613, 132, 1, 0, 612, 14),
  (⟨"PorterDoors$Reader", "part", "()V"⟩, prog_7_method_13_code, 2, none, 6, 617, 132, 1, 0, 616, 15),
  (⟨"PorterDoors$Reader", "isAllowed", "(I)Z"⟩, prog_7_method_14_code, 2, (some .boolean), 6, 621, 132, 1, 1, 620, 16),
  (⟨"PorterDoors$Reader", "numbers", "(I)V"⟩, prog_7_method_6_code, 5, none, 6, 627, 132, 1, 1, 626, 17),
  (⟨"PorterDoors$Reader", "number", "(II)I"⟩, prog_7_method_8_code, 4, (some .int), 6, 631, 132, 1, 2, 630, 18),
  (⟨"PorterDoors$Reader", "question", "()I"⟩, prog_7_method_9_code, 2, (some .int), 6, 1037, 132, 1, 0, 1035, 1036),
  (⟨"PorterDoors$Rounds", "<init>", "(LPorterDoors$Plan;LPorterDoors$Sums;)V"⟩, prog_8_method_1_code, 3, none, 7, 354, 136, 2, 2, 353, 0),
  (⟨"PorterDoors$Rounds", "forgetOrders", "()V"⟩, prog_8_method_2_code, 2, none, 7, 664, 136, 1, 0, 662, 663),
  (⟨"PorterDoors$Rounds", "orderOf", "(LPorterDoors$Hall;I)I"⟩, prog_8_method_3_code, 8, (some .int), 7, 735, 136, 1, 2, 733, 734),
  (⟨"PorterDoors$Rounds", "isWilling", "(LPorterDoors$Hall;I)Z"⟩, prog_8_method_5_code, 3, (some .boolean), 7, 781, 136, 1, 2, 779, 780),
  (⟨"PorterDoors$Rounds", "pass", "(LPorterDoors$Hall;I)I"⟩, prog_8_method_7_code, 6, (some .int), 7, 819, 136, 1, 2, 817, 818),
  (⟨"PorterDoors$Rounds", "walk", "(LPorterDoors$Hall;I)I"⟩, prog_8_method_6_code, 6, (some .int), 7, 824, 136, 1, 2, 822, 823),
  (⟨"PorterDoors$Rounds", "comeCold", "(LPorterDoors$Hall;)V"⟩, prog_8_method_8_code, 5, none, 7, 839, 136, 1, 1, 838, 26),
  (⟨"PorterDoors$Rounds", "tellOrders", "(LPorterDoors$Hall;)V"⟩, prog_8_method_4_code, 3, none, 7, 1046, 136, 1, 1, 1044, 1045)]
def mT3 : List mI := [(⟨"PorterDoors$Sets", "<init>", "(LPorterDoors$Plan;LPorterDoors$Hall;LPorterDoors$Rounds;)V"⟩, prog_9_method_1_code, 4, none, 8, 402, 138, 2, 3, 401, 0),
  (⟨"PorterDoors$Sets", "forgetSeen", "()V"⟩, prog_9_method_3_code, 1, none, 8, 656, 138, 1, 0, 654, 655),
  (⟨"PorterDoors$Sets", "forget", "()V"⟩, prog_9_method_2_code, 1, none, 8, 672, 138, 1, 0, 670, 671),
  (⟨"PorterDoors$Sets", "reckon", "()V"⟩, prog_9_method_5_code, 4, none, 8, 862, 138, 1, 0, 860, 861),
  (⟨"PorterDoors$Sets", "reckonFits", "()V"⟩, prog_9_method_6_code, 3, none, 8, 867, 138, 1, 0, 866, 27),
  (⟨"PorterDoors$Sets", "doorsBehind", "(I)I"⟩, prog_9_method_7_code, 2, (some .int), 8, 871, 138, 1, 1, 870, 28),
  (⟨"PorterDoors$Sets", "fewest", "(II)I"⟩, prog_9_method_9_code, 5, (some .int), 8, 883, 138, 1, 2, 881, 882),
  (⟨"PorterDoors$Sets", "isFewer", "(II)Z"⟩, prog_9_method_12_code, 2, (some .boolean), 8, 887, 138, 0, 2, 886, 0),
  (⟨"PorterDoors$Sets", "changingNone", "()I"⟩, prog_9_method_10_code, 3, (some .int), 8, 896, 138, 1, 0, 894, 895),
  (⟨"PorterDoors$Sets", "widestSet", "()I"⟩, prog_9_method_11_code, 5, (some .int), 8, 908, 138, 1, 0, 906, 907),
  (⟨"PorterDoors$Sets", "openBehind", "(I)I"⟩, prog_9_method_8_code, 2, (some .int), 8, 912, 138, 1, 1, 910, 911),
  (⟨"PorterDoors$Sets", "seeDoor", "(II)V"⟩, prog_9_method_4_code, 3, none, 8, 947, 138, 1, 2, 945, 946),
  (⟨"PorterDoors$Sets", "fitsWith", "(I)I"⟩, prog_9_method_13_code, 4, (some .int), 8, 959, 138, 1, 1, 957, 958),
  (⟨"PorterDoors$Sets", "tellingDoor", "()I"⟩, prog_9_method_15_code, 5, (some .int), 8, 967, 138, 1, 0, 965, 966),
  (⟨"PorterDoors$Sets", "mostLeft", "(I)I"⟩, prog_9_method_14_code, 4, (some .int), 8, 971, 138, 1, 1, 969, 970),
  (⟨"PorterDoors$Sums", "<init>", "()V"⟩, prog_10_method_1_code, 1, none, 9, 333, 135, 2, 0, 332, 0),
  (⟨"PorterDoors$Sums", "standAt", "(LPorterDoors$Hall;II)V"⟩, prog_10_method_2_code, 4, none, 9, 739, 135, 1, 3, 737, 738),
  (⟨"PorterDoors$Sums", "worth", "(LPorterDoors$Program;II)I"⟩, prog_10_method_4_code, 7, (some .int), 9, 745, 135, 1, 3, 743, 744),
  (⟨"PorterDoors$Sums", "isOfOne", "(I)Z"⟩, prog_10_method_5_code, 1, (some .boolean), 9, 748, 135, 0, 1, 747, 0),
  (⟨"PorterDoors$Sums", "single", "(II)I"⟩, prog_10_method_6_code, 4, (some .int), 9, 752, 135, 1, 2, 751, 24),
  (⟨"PorterDoors$Sums", "joined", "(III)I"⟩, prog_10_method_7_code, 5, (some .int), 9, 755, 135, 0, 3, 754, 0),
  (⟨"PorterDoors$Sums", "standWith", "(LPorterDoors$Hall;I)V"⟩, prog_10_method_3_code, 3, none, 9, 785, 135, 1, 2, 783, 784),
  (⟨"PorterDoorsModel", "<init>", "()V"⟩, prog_13_method_1_code, 1, none, 10, 1096, 139, 2, 0, 1095, 0),
  (⟨"PorterDoorsModel", "feed", "(IIIII)I"⟩, prog_13_method_4_code, 8, (some .int), 10, 1401, 139, 1, 5, 1399, 1400),
  (⟨"PorterDoorsModel", "end", "(I)Z"⟩, prog_13_method_5_code, 2, (some .boolean), 10, 1405, 139, 1, 1, 1403, 1404),
  (⟨"PorterDoorsModel", "corridor", "()I"⟩, prog_13_method_26_code, 2, (some .int), 10, 1409, 139, 1, 0, 1407, 1408),
  (⟨"PorterDoorsModel", "doorsTold", "()V"⟩, prog_13_method_19_code, 1, none, 10, 1413, 139, 1, 0, 1412, 42),
  (⟨"PorterDoorsModel", "asks", "([C)V"⟩, prog_13_method_12_code, 2, none, 10, 1417, 139, 1, 1, 1416, 43),
  (⟨"PorterDoorsModel", "takes", "([C)Z"⟩, prog_13_method_11_code, 2, (some .boolean), 10, 1421, 139, 1, 1, 1420, 44),
  (⟨"PorterDoorsModel", "isHere", "([C)Z"⟩, prog_13_method_10_code, 4, (some .boolean), 10, 1425, 139, 1, 1, 1424, 45),
  (⟨"PorterDoorsModel", "look", "()I"⟩, prog_13_method_9_code, 1, (some .int), 10, 1429, 139, 1, 0, 1428, 46),
  (⟨"PorterDoorsModel", "isLetter", "(I)Z"⟩, prog_13_method_7_code, 1, (some .boolean), 10, 1432, 139, 0, 1, 1431, 0),
  (⟨"PorterDoorsModel", "fail", "(II)V"⟩, prog_13_method_6_code, 3, none, 10, 1436, 139, 1, 2, 1435, 47),
  (⟨"PorterDoorsModel", "number", "(II)I"⟩, prog_13_method_15_code, 5, (some .int), 10, 1440, 139, 1, 2, 1439, 48),
  (⟨"PorterDoorsModel", "isDigit", "(I)Z"⟩, prog_13_method_8_code, 1, (some .boolean), 10, 1443, 139, 0, 1, 1442, 0),
  (⟨"PorterDoorsModel", "isIn", "(JJJ)Z"⟩, prog_13_method_2_code, 6, (some .boolean), 10, 1446, 139, 0, 3, 1445, 0),
  (⟨"PorterDoorsModel", "asksSign", "(I)V"⟩, prog_13_method_14_code, 2, none, 10, 1450, 139, 1, 1, 1449, 49),
  (⟨"PorterDoorsModel", "takesSign", "(I)Z"⟩, prog_13_method_13_code, 2, (some .boolean), 10, 1454, 139, 1, 1, 1453, 50),
  (⟨"PorterDoorsModel", "statementTold", "()V"⟩, prog_13_method_25_code, 2, none, 10, 1458, 139, 1, 0, 1457, 51),
  (⟨"PorterDoorsModel", "porterTold", "(I)V"⟩, prog_13_method_22_code, 5, none, 10, 1462, 139, 1, 1, 1461, 52)]
def mT4 : List mI := [(⟨"PorterDoorsModel", "name", "()J"⟩, prog_13_method_17_code, 3, (some .long), 10, 1466, 139, 1, 0, 1465, 53),
  (⟨"PorterDoorsModel", "isOwnHere", "()Z"⟩, prog_13_method_16_code, 2, (some .boolean), 10, 1470, 139, 1, 0, 1469, 54),
  (⟨"PorterDoorsModel", "reads", "(II)V"⟩, prog_13_method_20_code, 4, none, 10, 1476, 139, 1, 2, 1475, 55),
  (⟨"PorterDoorsModel", "qSums", "()V"⟩, prog_13_method_110_code, 3, none, 10, 1480, 139, 1, 0, 1479, 56),
  (⟨"PorterDoorsModel", "qPartTold", "()V"⟩, prog_13_method_108_code, 6, none, 10, 1484, 139, 1, 0, 1483, 57),
  (⟨"PorterDoorsModel", "qWordOf", "(II)I"⟩, prog_13_method_105_code, 4, (some .int), 10, 1488, 139, 1, 2, 1487, 58),
  (⟨"PorterDoorsModel", "qWordHere", "()I"⟩, prog_13_method_104_code, 1, (some .int), 10, 1492, 139, 1, 0, 1491, 59),
  (⟨"PorterDoorsModel", "isAllowed", "(I)Z"⟩, prog_13_method_18_code, 2, (some .boolean), 10, 1496, 139, 1, 1, 1495, 60),
  (⟨"PorterDoorsModel", "qOpens", "(II)V"⟩, prog_13_method_98_code, 3, none, 10, 1502, 139, 1, 2, 1501, 61),
  (⟨"PorterDoorsModel", "qAsksWord", "(I)V"⟩, prog_13_method_106_code, 2, none, 10, 1506, 139, 1, 1, 1505, 62),
  (⟨"PorterDoorsModel", "qCode", "(I)V"⟩, prog_13_method_97_code, 2, none, 10, 1510, 139, 1, 1, 1509, 63),
  (⟨"PorterDoorsModel", "qEndsPart", "()V"⟩, prog_13_method_107_code, 1, none, 10, 1514, 139, 1, 0, 1513, 64),
  (⟨"PorterDoorsModel", "qDrops", "()V"⟩, prog_13_method_100_code, 1, none, 10, 1518, 139, 1, 0, 1517, 65),
  (⟨"PorterDoorsModel", "qGoesOn", "()Z"⟩, prog_13_method_109_code, 2, (some .boolean), 10, 1522, 139, 1, 0, 1521, 66),
  (⟨"PorterDoorsModel", "qBracket", "()I"⟩, prog_13_method_102_code, 2, (some .int), 10, 1526, 139, 1, 0, 1525, 67),
  (⟨"PorterDoorsModel", "qIsBracket", "(I)Z"⟩, prog_13_method_101_code, 1, (some .boolean), 10, 1529, 139, 0, 1, 1528, 0),
  (⟨"PorterDoorsModel", "qDropsToBracket", "()V"⟩, prog_13_method_103_code, 1, none, 10, 1533, 139, 1, 0, 1532, 68),
  (⟨"PorterDoorsModel", "qIsOn", "(I)Z"⟩, prog_13_method_99_code, 2, (some .boolean), 10, 1537, 139, 1, 1, 1536, 69),
  (⟨"PorterDoorsModel", "qTest", "()V"⟩, prog_13_method_114_code, 3, none, 10, 1541, 139, 1, 0, 1540, 70),
  (⟨"PorterDoorsModel", "qFact", "()V"⟩, prog_13_method_111_code, 2, none, 10, 1545, 139, 1, 0, 1544, 71),
  (⟨"PorterDoorsModel", "qDropsNots", "()V"⟩, prog_13_method_113_code, 1, none, 10, 1549, 139, 1, 0, 1548, 72),
  (⟨"PorterDoorsModel", "qGoesOnTest", "()Z"⟩, prog_13_method_115_code, 1, (some .boolean), 10, 1553, 139, 1, 0, 1552, 73),
  (⟨"PorterDoorsModel", "qHasSquare", "()Z"⟩, prog_13_method_112_code, 2, (some .boolean), 10, 1557, 139, 1, 0, 1556, 74),
  (⟨"PorterDoorsModel", "paintTold", "()V"⟩, prog_13_method_23_code, 3, none, 10, 1561, 139, 1, 0, 1560, 75),
  (⟨"PorterDoorsModel", "openTold", "()V"⟩, prog_13_method_24_code, 2, none, 10, 1565, 139, 1, 0, 1564, 76),
  (⟨"PorterDoorsModel", "lawTold", "(III)V"⟩, prog_13_method_21_code, 4, none, 10, 1569, 139, 1, 3, 1568, 77),
  (⟨"PorterDoorsModel", "refuses", "(I)I"⟩, prog_13_method_87_code, 2, (some .int), 10, 1573, 139, 1, 1, 1572, 78),
  (⟨"PorterDoorsModel", "stands", "()V"⟩, prog_13_method_27_code, 2, none, 10, 1577, 139, 1, 0, 1576, 79),
  (⟨"PorterDoorsModel", "fault", "(I)I"⟩, prog_13_method_28_code, 2, (some .int), 10, 1581, 139, 1, 1, 1579, 1580),
  (⟨"PorterDoorsModel", "has", "(I)I"⟩, prog_13_method_56_code, 2, (some .int), 10, 1585, 139, 1, 1, 1583, 1584),
  (⟨"PorterDoorsModel", "doorMany", "()I"⟩, prog_13_method_29_code, 1, (some .int), 10, 1589, 139, 1, 0, 1588, 80),
  (⟨"PorterDoorsModel", "porterMany", "()I"⟩, prog_13_method_30_code, 1, (some .int), 10, 1593, 139, 1, 0, 1592, 81),
  (⟨"PorterDoorsModel", "openMany", "()I"⟩, prog_13_method_39_code, 1, (some .int), 10, 1597, 139, 1, 0, 1596, 82),
  (⟨"PorterDoorsModel", "openSet", "()I"⟩, prog_13_method_37_code, 3, (some .int), 10, 1601, 139, 1, 0, 1600, 83),
  (⟨"PorterDoorsModel", "openOf", "(I)I"⟩, prog_13_method_33_code, 2, (some .int), 10, 1605, 139, 1, 1, 1604, 84),
  (⟨"PorterDoorsModel", "bits", "(I)I"⟩, prog_13_method_38_code, 3, (some .int), 10, 1608, 139, 0, 1, 1607, 0),
  (⟨"PorterDoorsModel", "jammedMany", "()I"⟩, prog_13_method_55_code, 3, (some .int), 10, 1612, 139, 1, 0, 1611, 85),
  (⟨"PorterDoorsModel", "isJammed", "(I)Z"⟩, prog_13_method_36_code, 2, (some .boolean), 10, 1616, 139, 1, 1, 1615, 86),
  (⟨"PorterDoorsModel", "turnedOf", "(I)I"⟩, prog_13_method_34_code, 2, (some .int), 10, 1620, 139, 1, 1, 1619, 87),
  (⟨"PorterDoorsModel", "letter", "(II)I"⟩, prog_13_method_57_code, 8, (some .int), 10, 1624, 139, 1, 2, 1622, 1623)]
def mT5 : List mI := [(⟨"PorterDoorsModel", "isPorter", "(J)Z"⟩, prog_13_method_32_code, 3, (some .boolean), 10, 1628, 139, 1, 1, 1627, 88),
  (⟨"PorterDoorsModel", "door", "(II)I"⟩, prog_13_method_59_code, 3, (some .int), 10, 1632, 139, 1, 2, 1630, 1631),
  (⟨"PorterDoorsModel", "isDoor", "(J)Z"⟩, prog_13_method_31_code, 3, (some .boolean), 10, 1636, 139, 1, 1, 1635, 89),
  (⟨"PorterDoorsModel", "paintOf", "(I)I"⟩, prog_13_method_35_code, 2, (some .int), 10, 1640, 139, 1, 1, 1639, 90),
  (⟨"PorterDoorsModel", "orderedBy", "(I)I"⟩, prog_13_method_58_code, 4, (some .int), 10, 1644, 139, 1, 1, 1643, 91),
  (⟨"PorterDoorsModel", "laysOrders", "()V"⟩, prog_13_method_43_code, 2, none, 10, 1648, 139, 1, 0, 1647, 92),
  (⟨"PorterDoorsModel", "orderOf", "(I)I"⟩, prog_13_method_42_code, 4, (some .int), 10, 1652, 139, 1, 1, 1651, 93),
  (⟨"PorterDoorsModel", "codesTell", "(I)J"⟩, prog_13_method_41_code, 4, (some .long), 10, 1656, 139, 1, 1, 1655, 94),
  (⟨"PorterDoorsModel", "qPuts", "(J)V"⟩, prog_13_method_118_code, 3, none, 10, 1660, 139, 1, 1, 1659, 95),
  (⟨"PorterDoorsModel", "qPartOf", "(II)J"⟩, prog_13_method_120_code, 3, (some .long), 10, 1664, 139, 1, 2, 1663, 96),
  (⟨"PorterDoorsModel", "qJoins", "(I)V"⟩, prog_13_method_119_code, 6, none, 10, 1668, 139, 1, 1, 1667, 97),
  (⟨"PorterDoorsModel", "qClip", "(J)J"⟩, prog_13_method_116_code, 2, (some .long), 10, 1671, 139, 0, 1, 1670, 0),
  (⟨"PorterDoorsModel", "qFloor", "(JJ)J"⟩, prog_13_method_117_code, 6, (some .long), 10, 1676, 139, 0, 2, 1675, 0),
  (⟨"PorterDoorsModel", "porter", "(II)I"⟩, prog_13_method_60_code, 3, (some .int), 10, 1680, 139, 1, 2, 1678, 1679),
  (⟨"PorterDoorsModel", "doesWalk", "(I)Z"⟩, prog_13_method_44_code, 2, (some .boolean), 10, 1684, 139, 1, 1, 1683, 98),
  (⟨"PorterDoorsModel", "isCoded", "(I)Z"⟩, prog_13_method_40_code, 2, (some .boolean), 10, 1688, 139, 1, 1, 1687, 99),
  (⟨"PorterDoorsModel", "order", "(I)I"⟩, prog_13_method_61_code, 2, (some .int), 10, 1692, 139, 1, 1, 1690, 1691),
  (⟨"PorterDoorsModel", "kept", "(II)I"⟩, prog_13_method_62_code, 3, (some .int), 10, 1696, 139, 1, 2, 1694, 1695),
  (⟨"PorterDoorsModel", "later", "(I)I"⟩, prog_13_method_63_code, 3, (some .int), 10, 1701, 139, 1, 1, 1699, 1700),
  (⟨"PorterDoorsModel", "isAhead", "(III)Z"⟩, prog_13_method_54_code, 4, (some .boolean), 10, 1705, 139, 1, 3, 1704, 100),
  (⟨"PorterDoorsModel", "putsAside", "()V"⟩, prog_13_method_51_code, 2, none, 10, 1709, 139, 1, 0, 1708, 101),
  (⟨"PorterDoorsModel", "nightsGo", "(II)V"⟩, prog_13_method_50_code, 4, none, 10, 1713, 139, 1, 2, 1712, 102),
  (⟨"PorterDoorsModel", "nightGoes", "(I)V"⟩, prog_13_method_49_code, 3, none, 10, 1717, 139, 1, 1, 1716, 103),
  (⟨"PorterDoorsModel", "walks", "(I)I"⟩, prog_13_method_46_code, 5, (some .int), 10, 1721, 139, 1, 1, 1720, 104),
  (⟨"PorterDoorsModel", "isTurned", "(I)Z"⟩, prog_13_method_45_code, 2, (some .boolean), 10, 1725, 139, 1, 1, 1724, 105),
  (⟨"PorterDoorsModel", "isKept", "(II)V"⟩, prog_13_method_47_code, 4, none, 10, 1729, 139, 1, 2, 1728, 106),
  (⟨"PorterDoorsModel", "coldBy", "(I)I"⟩, prog_13_method_48_code, 2, (some .int), 10, 1733, 139, 1, 1, 1732, 107),
  (⟨"PorterDoorsModel", "clamp", "(J)I"⟩, prog_13_method_3_code, 2, (some .int), 10, 1736, 139, 0, 1, 1735, 0),
  (⟨"PorterDoorsModel", "takesBack", "()V"⟩, prog_13_method_53_code, 1, none, 10, 1742, 139, 1, 0, 1741, 108),
  (⟨"PorterDoorsModel", "triesAnew", "()V"⟩, prog_13_method_52_code, 2, none, 10, 1746, 139, 1, 0, 1745, 109),
  (⟨"PorterDoorsModel", "cold", "(I)I"⟩, prog_13_method_64_code, 3, (some .int), 10, 1750, 139, 1, 1, 1748, 1749),
  (⟨"PorterDoorsModel", "back", "()I"⟩, prog_13_method_65_code, 4, (some .int), 10, 1754, 139, 1, 0, 1752, 1753),
  (⟨"PorterDoorsModel", "row", "()I"⟩, prog_13_method_66_code, 4, (some .int), 10, 1758, 139, 1, 0, 1756, 1757),
  (⟨"PorterDoorsModel", "changes", "(I)I"⟩, prog_13_method_69_code, 2, (some .int), 10, 1762, 139, 1, 1, 1760, 1761),
  (⟨"PorterDoorsModel", "isSet", "(I)Z"⟩, prog_13_method_67_code, 2, (some .boolean), 10, 1766, 139, 1, 1, 1765, 110),
  (⟨"PorterDoorsModel", "changedBy", "(I)I"⟩, prog_13_method_68_code, 4, (some .int), 10, 1770, 139, 1, 1, 1769, 111),
  (⟨"PorterDoorsModel", "sends", "(II)I"⟩, prog_13_method_72_code, 3, (some .int), 10, 1774, 139, 1, 2, 1772, 1773),
  (⟨"PorterDoorsModel", "areDoors", "(I)Z"⟩, prog_13_method_71_code, 2, (some .boolean), 10, 1778, 139, 1, 1, 1777, 112),
  (⟨"PorterDoorsModel", "fewest", "(II)I"⟩, prog_13_method_70_code, 5, (some .int), 10, 1782, 139, 1, 2, 1781, 113),
  (⟨"PorterDoorsModel", "alike", "()I"⟩, prog_13_method_73_code, 3, (some .int), 10, 1786, 139, 1, 0, 1784, 1785)]
def mT6 : List mI := [(⟨"PorterDoorsModel", "alone", "(I)I"⟩, prog_13_method_74_code, 2, (some .int), 10, 1790, 139, 1, 1, 1788, 1789),
  (⟨"PorterDoorsModel", "widest", "(I)I"⟩, prog_13_method_75_code, 6, (some .int), 10, 1794, 139, 1, 1, 1792, 1793),
  (⟨"PorterDoorsModel", "rest", "(II)I"⟩, prog_13_method_76_code, 7, (some .int), 10, 1798, 139, 1, 2, 1796, 1797),
  (⟨"PorterDoorsModel", "odds", "(I)I"⟩, prog_13_method_77_code, 4, (some .int), 10, 1802, 139, 1, 1, 1800, 1801),
  (⟨"PorterDoorsModel", "see", "()I"⟩, prog_13_method_78_code, 4, (some .int), 10, 1806, 139, 1, 0, 1804, 1805),
  (⟨"PorterDoorsModel", "fits", "(I)I"⟩, prog_13_method_81_code, 4, (some .int), 10, 1810, 139, 1, 1, 1808, 1809),
  (⟨"PorterDoorsModel", "laysFits", "()V"⟩, prog_13_method_80_code, 2, none, 10, 1814, 139, 1, 0, 1813, 114),
  (⟨"PorterDoorsModel", "isAsSeen", "(I)Z"⟩, prog_13_method_79_code, 3, (some .boolean), 10, 1818, 139, 1, 1, 1817, 115),
  (⟨"PorterDoorsModel", "walked", "(I)I"⟩, prog_13_method_82_code, 4, (some .int), 10, 1822, 139, 1, 1, 1820, 1821),
  (⟨"PorterDoorsModel", "tells", "(I)I"⟩, prog_13_method_84_code, 6, (some .int), 10, 1826, 139, 1, 1, 1824, 1825),
  (⟨"PorterDoorsModel", "mostAlike", "(I)I"⟩, prog_13_method_83_code, 4, (some .int), 10, 1830, 139, 1, 1, 1829, 116),
  (⟨"PorterDoorsModel", "undo", "()Z"⟩, prog_13_method_86_code, 2, (some .boolean), 10, 1834, 139, 1, 0, 1832, 1833),
  (⟨"PorterDoorsModel", "send", "(I)I"⟩, prog_13_method_89_code, 2, (some .int), 10, 1838, 139, 1, 1, 1836, 1837),
  (⟨"PorterDoorsModel", "keeps", "()V"⟩, prog_13_method_85_code, 2, none, 10, 1842, 139, 1, 0, 1841, 117),
  (⟨"PorterDoorsModel", "turn", "(I)Z"⟩, prog_13_method_90_code, 2, (some .boolean), 10, 1846, 139, 1, 1, 1844, 1845),
  (⟨"PorterDoorsModel", "isRefused", "(I)Z"⟩, prog_13_method_88_code, 2, (some .boolean), 10, 1850, 139, 1, 1, 1849, 118),
  (⟨"PorterDoorsModel", "oil", "(I)Z"⟩, prog_13_method_91_code, 2, (some .boolean), 10, 1854, 139, 1, 1, 1852, 1853),
  (⟨"PorterDoorsModel", "paint", "(II)Z"⟩, prog_13_method_92_code, 3, (some .boolean), 10, 1858, 139, 1, 2, 1856, 1857),
  (⟨"PorterDoorsModel", "nights", "(I)I"⟩, prog_13_method_93_code, 2, (some .int), 10, 1863, 139, 1, 1, 1861, 1862),
  (⟨"PorterDoorsModel", "seed", "(I)Z"⟩, prog_13_method_94_code, 2, (some .boolean), 10, 1867, 139, 1, 1, 1865, 1866),
  (⟨"PorterDoorsModel", "chance", "(I)I"⟩, prog_13_method_96_code, 5, (some .int), 10, 1871, 139, 1, 1, 1869, 1870),
  (⟨"PorterDoorsModel", "drawOf", "(I)I"⟩, prog_13_method_95_code, 2, (some .int), 10, 1875, 139, 1, 1, 1874, 119),
  (⟨"PorterDoorsModel", "ask", "()J"⟩, prog_13_method_125_code, 3, (some .long), 10, 1883, 139, 1, 0, 1881, 1882),
  (⟨"PorterDoorsModel", "qKind", "()I"⟩, prog_13_method_123_code, 2, (some .int), 10, 1888, 139, 1, 0, 1887, 120),
  (⟨"PorterDoorsModel", "qTold", "(I)J"⟩, prog_13_method_122_code, 4, (some .long), 10, 1893, 139, 1, 1, 1892, 121),
  (⟨"PorterDoorsModel", "qOf", "(IJI)J"⟩, prog_13_method_121_code, 5, (some .long), 10, 1897, 139, 1, 3, 1896, 122),
  (⟨"PorterDoorsModel", "qTakes", "(IJI)V"⟩, prog_13_method_124_code, 6, none, 10, 1901, 139, 1, 3, 1900, 123),
  (⟨"PorterDoorsModel", "octet", "(I)I"⟩, prog_13_method_130_code, 2, (some .int), 10, 1905, 139, 1, 1, 1903, 1904),
  (⟨"PorterDoorsModel", "status", "(I)I"⟩, prog_13_method_131_code, 2, (some .int), 10, 1909, 139, 1, 1, 1907, 1908),
  (⟨"PorterDoorsModel", "image", "()I"⟩, prog_13_method_132_code, 2, (some .int), 10, 1913, 139, 1, 0, 1911, 1912),
  (⟨"PorterDoorsModel", "writesTwo", "(I)V"⟩, prog_13_method_128_code, 2, none, 10, 1917, 139, 1, 1, 1916, 124),
  (⟨"PorterDoorsModel", "writes", "(I)V"⟩, prog_13_method_127_code, 2, none, 10, 1921, 139, 1, 1, 1920, 125),
  (⟨"PorterDoorsModel", "checked", "([II)I"⟩, prog_13_method_126_code, 4, (some .int), 10, 1925, 139, 0, 2, 1924, 0),
  (⟨"PorterDoorsModel", "on", "()Z"⟩, prog_13_method_134_code, 3, (some .boolean), 10, 1929, 139, 1, 0, 1927, 1928),
  (⟨"PorterDoorsModel", "isImage", "(I)Z"⟩, prog_13_method_133_code, 4, (some .boolean), 10, 1933, 139, 1, 1, 1932, 126),
  (⟨"PorterDoorsModel", "twoAt", "(I)I"⟩, prog_13_method_129_code, 2, (some .int), 10, 1937, 139, 1, 1, 1936, 127),
  (⟨"java/lang/Integer", "bitCount", "(I)I"⟩, prog_14_method_49_code, 1, (some .int), 13, 687, 143, 0, 1, 686, 0),
  (⟨"java/lang/Math", "min", "(II)I"⟩, prog_15_method_69_code, 2, (some .int), 14, 541, 140, 0, 2, 540, 0),
  (⟨"java/lang/Math", "max", "(II)I"⟩, prog_15_method_65_code, 2, (some .int), 14, 760, 140, 0, 2, 759, 0),
  (⟨"java/lang/Math", "max", "(JJ)J"⟩, prog_15_method_66_code, 4, (some .long), 14, 766, 140, 0, 2, 765, 0)]
def mT7 : List mI := [(⟨"java/lang/Math", "min", "(JJ)J"⟩, prog_15_method_70_code, 4, (some .long), 14, 769, 140, 0, 2, 768, 0),
  (⟨"java/lang/Math", "floorDiv", "(II)I"⟩, prog_15_method_47_code, 3, (some .int), 14, 772, 140, 0, 2, 771, 0)]
def mT : List mI := mT0 ++ mT1 ++ mT2 ++ mT3 ++ mT4 ++ mT5 ++ mT6 ++ mT7
def fl_0 : List (Nat × Nat × Nat × Nat) := [(9, 0, 0, 443), (13, 0, 1, 444), (20, 0, 2, 445), (24, 0, 3, 446), (30, 0, 4, 447), (39, 0, 5, 448), (46, 0, 6, 449), (50, 0, 7, 450), (56, 0, 8, 451), (63, 0, 9, 452), (72, 0, 10, 453), (81, 0, 11, 454), (90, 0, 12, 455), (94, 0, 13, 456), (97, 0, 14, 457), (100, 0, 15, 458), (103, 0, 16, 459), (121, 4, 7, 205), (135, 6, 12, 264), (153, 6, 13, 266), (156, 4, 0, 181), (159, 4, 1, 187), (162, 2, 0, 307), (171, 4, 2, 190), (177, 8, 8, 417), (180, 3, 2, 321), (226, 1, 3, 381), (229, 1, 4, 383), (240, 8, 4, 409), (241, 8, 5, 411), (265, 4, 3, 194), (278, 8, 6, 413), (281, 8, 7, 415), (314, 5, 1, 170)]
def ml_0 : List (Nat × Nat × Nat) := [(36, 91, 247), (69, 112, 352), (78, 62, 371), (87, 120, 400), (106, 2, 499), (110, 3, 503), (114, 80, 515), (117, 6, 531), (124, 92, 535), (128, 96, 557), (132, 97, 561), (138, 85, 632), (142, 66, 644), (144, 76, 649), (147, 121, 653), (150, 7, 657), (165, 67, 681), (168, 10, 691), (174, 69, 699), (183, 12, 708), (186, 86, 712), (190, 14, 720), (193, 70, 724), (197, 68, 695), (201, 15, 728), (204, 114, 732), (208, 276, 777), (213, 115, 778), (217, 71, 795), (220, 20, 804), (223, 64, 808), (232, 278, 854), (237, 123, 859), (244, 26, 876), (247, 126, 880), (250, 128, 893), (253, 129, 905), (256, 130, 913), (259, 31, 918), (262, 32, 922), (268, 34, 932), (271, 36, 940), (274, 131, 944), (284, 132, 956), (287, 133, 964), (290, 134, 973), (293, 77, 978), (297, 117, 984), (300, 73, 989), (303, 116, 927), (306, 46, 1006), (309, 78, 1021), (317, 111, 1034), (319, 51, 1039), (323, 53, 1056), (326, 54, 1060), (330, 57, 1071), (333, 60, 1084), (336, 113, 661), (339, 63, 665), (340, 122, 669), (341, 72, 926), (343, 47, 1010), (352, 119, 1043), (357, 136, 1049), (361, 137, 1050), (365, 277, 1051), (368, 58, 1075), (371, 59, 1079)]
def cl_0 : List (Nat × Value × Nat) := [(312, .long (-1000000000000000), 1033), (346, .long (1103515245), 1014), (348, .long (12345), 1015), (350, .long (2147483647), 1016), (355, .int (-1000000), 1047), (356, .int (1000000), 1048), (374, .int (999999), 1083)]
def fl_1 : List (Nat × Nat × Nat × Nat) := [(12, 1, 1, 378), (18, 1, 3, 380), (22, 1, 4, 382), (25, 1, 5, 384), (29, 1, 0, 377), (32, 1, 2, 379), (36, 2, 0, 305)]
def ml_1 : List (Nat × Nat × Nat) := [(39, 72, 812), (43, 116, 816)]
def cl_1 : List (Nat × Value × Nat) := []
def fl_2 : List (Nat × Nat × Nat × Nat) := [(11, 2, 0, 302), (15, 4, 4, 196), (21, 4, 5, 199)]
def ml_2 : List (Nat × Nat × Nat) := [(30, 276, 685), (36, 68, 830), (40, 277, 703), (46, 69, 799)]
def cl_2 : List (Nat × Value × Nat) := []
def fl_3 : List (Nat × Nat × Nat × Nat) := [(11, 3, 0, 318), (15, 3, 1, 319), (19, 3, 2, 320), (22, 2, 0, 304)]
def ml_3 : List (Nat × Nat × Nat) := [(31, 277, 983)]
def cl_3 : List (Nat × Value × Nat) := []
def fl_4 : List (Nat × Nat × Nat × Nat) := [(9, 4, 0, 178), (15, 4, 1, 183), (18, 4, 2, 188), (21, 4, 3, 192), (24, 4, 4, 195), (27, 4, 5, 198), (31, 4, 6, 201), (38, 4, 7, 202), (42, 4, 8, 206), (45, 4, 9, 208), (48, 4, 10, 210), (51, 4, 11, 212), (55, 4, 12, 214), (58, 5, 1, 167)]
def ml_4 : List (Nat × Nat × Nat) := [(63, 88, 519), (67, 81, 523), (71, 89, 527), (75, 83, 585), (87, 90, 639)]
def cl_4 : List (Nat × Value × Nat) := [(79, .long (100), 588)]
def fl_5 : List (Nat × Nat × Nat × Nat) := [(9, 5, 0, 164), (15, 5, 1, 166)]
def ml_5 : List (Nat × Nat × Nat) := []
def cl_5 : List (Nat × Value × Nat) := []
def fl_6 : List (Nat × Nat × Nat × Nat) := [(9, 6, 3, 254), (15, 6, 4, 255), (18, 6, 5, 256), (21, 6, 6, 257), (24, 6, 7, 258), (27, 6, 8, 259), (30, 6, 9, 260), (34, 6, 10, 261), (37, 6, 11, 262), (40, 6, 12, 263), (43, 6, 13, 265), (46, 6, 0, 251), (50, 6, 1, 252), (54, 4, 7, 203), (60, 6, 2, 253), (86, 5, 1, 169), (89, 4, 1, 185), (100, 4, 11, 213), (105, 4, 12, 215), (121, 4, 0, 180), (124, 4, 5, 200), (127, 4, 4, 197), (130, 4, 2, 191), (133, 4, 3, 193)]
def ml_6 : List (Nat × Nat × Nat) := [(63, 277, 539), (69, 93, 542), (72, 98, 565), (76, 99, 569), (80, 100, 573), (92, 101, 577), (95, 102, 593), (98, 81, 622), (108, 106, 610), (111, 109, 624), (115, 105, 606), (118, 110, 628), (136, 82, 581), (140, 84, 589), (145, 103, 597), (148, 88, 605), (151, 104, 601), (155, 107, 614), (158, 108, 618), (161, 94, 546), (164, 95, 553)]
def cl_6 : List (Nat × Value × Nat) := [(104, .int (61440), 623), (144, .int (470536), 1038), (167, .long (100), 550)]
def fl_7 : List (Nat × Nat × Nat × Nat) := [(11, 7, 2, 358), (15, 7, 3, 359), (18, 7, 0, 356), (22, 7, 1, 357), (26, 4, 10, 211), (32, 2, 0, 306), (37, 4, 0, 179), (40, 4, 2, 189), (49, 4, 7, 204), (53, 4, 8, 207), (56, 4, 9, 209), (63, 9, 1, 337), (64, 4, 1, 184), (71, 9, 2, 339)]
def ml_7 : List (Nat × Nat × Nat) := [(43, 136, 736), (59, 137, 742), (67, 114, 825), (74, 141, 782), (78, 73, 826), (82, 115, 820), (86, 117, 821), (89, 74, 831), (93, 277, 835), (99, 118, 836), (103, 278, 840)]
def cl_7 : List (Nat × Value × Nat) := [(106, .int (999999), 841)]
def fl_8 : List (Nat × Nat × Nat × Nat) := [(9, 8, 3, 407), (15, 8, 4, 408), (19, 8, 5, 410), (23, 8, 6, 412), (26, 8, 7, 414), (29, 8, 8, 416), (32, 8, 9, 418), (35, 8, 10, 419), (38, 8, 0, 404), (42, 8, 1, 405), (46, 8, 2, 406), (50, 4, 1, 186), (68, 2, 0, 308), (97, 4, 0, 182)]
def ml_8 : List (Nat × Nat × Nat) := [(55, 114, 863), (61, 124, 864), (64, 125, 868), (73, 276, 888), (78, 123, 884), (81, 127, 885), (85, 130, 909), (88, 278, 972), (94, 134, 968)]
def cl_8 : List (Nat × Value × Nat) := []
def fl_9 : List (Nat × Nat × Nat × Nat) := [(11, 9, 0, 335), (17, 9, 1, 336), (20, 9, 2, 338), (24, 9, 3, 340), (27, 2, 0, 303), (44, 5, 1, 168), (49, 5, 0, 165)]
def ml_9 : List (Nat × Nat × Nat) := [(32, 70, 740), (36, 68, 741), (40, 67, 786), (52, 138, 746), (56, 139, 749), (60, 140, 753), (66, 278, 758), (71, 277, 761), (78, 279, 764), (81, 280, 767), (83, 281, 770)]
def cl_9 : List (Nat × Value × Nat) := [(64, .int (1000000), 756), (65, .int (-1000000), 757), (74, .long (1000000), 762), (76, .long (-1000000), 763)]
def fl_10 : List (Nat × Nat × Nat × Nat) := [(7, 10, 0, 1098), (13, 10, 8, 1106), (17, 10, 9, 1107), (20, 10, 11, 1109), (24, 10, 12, 1110), (27, 10, 13, 1111), (30, 10, 14, 1112), (33, 10, 15, 1113), (36, 10, 16, 1114), (39, 10, 17, 1115), (42, 10, 18, 1116), (45, 10, 19, 1117), (48, 10, 20, 1118), (51, 10, 21, 1119), (54, 10, 22, 1120), (57, 10, 23, 1121), (60, 10, 24, 1122), (63, 10, 25, 1123), (66, 10, 26, 1124), (69, 10, 27, 1125), (72, 10, 28, 1126), (75, 10, 29, 1127), (78, 10, 30, 1128), (81, 10, 31, 1129), (84, 10, 32, 1130), (87, 10, 33, 1131), (90, 10, 34, 1132), (93, 10, 35, 1133), (96, 10, 37, 1135), (99, 10, 38, 1136), (103, 10, 39, 1137), (106, 10, 41, 1139), (109, 10, 42, 1140), (112, 10, 43, 1141), (115, 10, 48, 1146), (118, 10, 51, 1149), (121, 10, 54, 1152), (124, 10, 56, 1154), (127, 10, 57, 1155), (131, 10, 58, 1156), (134, 10, 60, 1158), (137, 10, 63, 1161), (141, 10, 64, 1162), (144, 10, 65, 1163), (147, 10, 66, 1164), (150, 10, 67, 1165), (153, 10, 68, 1166), (156, 10, 69, 1167), (159, 10, 70, 1168), (162, 10, 71, 1169), (165, 10, 72, 1170), (168, 10, 73, 1171), (171, 10, 74, 1172), (174, 10, 75, 1173), (177, 10, 76, 1174), (180, 10, 77, 1175), (183, 10, 78, 1176), (186, 10, 79, 1177), (189, 10, 80, 1178), (192, 10, 81, 1179), (195, 10, 82, 1180), (198, 10, 83, 1181), (201, 10, 84, 1182), (204, 10, 85, 1183), (207, 10, 86, 1184), (210, 10, 87, 1185), (213, 10, 89, 1187), (216, 10, 93, 1191), (219, 10, 97, 1195), (224, 10, 1, 1099), (227, 10, 5, 1103), (230, 10, 6, 1104), (233, 10, 2, 1100), (236, 10, 3, 1101), (247, 10, 4, 1102), (267, 10, 10, 1108), (278, 10, 36, 1134), (285, 10, 47, 1145), (304, 10, 88, 1186), (307, 10, 90, 1188), (310, 10, 91, 1189), (313, 10, 92, 1190), (322, 10, 44, 1142), (332, 10, 40, 1138), (335, 10, 45, 1143), (357, 10, 7, 1105), (367, 10, 46, 1144), (371, 10, 61, 1159), (374, 10, 55, 1153), (395, 10, 94, 1192), (409, 10, 49, 1147), (422, 10, 50, 1148), (431, 10, 53, 1151), (447, 10, 52, 1150), (509, 10, 59, 1157), (521, 10, 62, 1160), (613, 10, 95, 1193), (618, 10, 96, 1194), (633, 10, 98, 1196)]
def ml_10 : List (Nat × Nat × Nat) := [(239, 150, 1426), (243, 151, 1430), (250, 149, 1422), (254, 148, 1418), (257, 152, 1433), (261, 157, 1451), (264, 154, 1441), (270, 155, 1444), (274, 161, 1467), (292, 147, 1414), (296, 153, 1437), (300, 156, 1447), (316, 163, 1477), (319, 178, 1538), (325, 162, 1473), (328, 160, 1463), (338, 159, 1459), (341, 183, 1558), (344, 184, 1562), (347, 185, 1566), (351, 146, 1410), (354, 158, 1455), (360, 186, 1570), (364, 187, 1574), (377, 190, 1586), (380, 191, 1590), (383, 198, 1617), (386, 194, 1602), (389, 193, 1598), (392, 195, 1606), (398, 208, 1657), (402, 209, 1661), (406, 210, 1665), (412, 207, 1653), (416, 206, 1649), (419, 215, 1685), (425, 197, 1613), (428, 224, 1722), (434, 227, 1734), (438, 214, 1681), (441, 223, 1718), (444, 225, 1726), (450, 226, 1730), (454, 222, 1714), (457, 229, 1743), (460, 192, 1594), (463, 196, 1609), (466, 200, 1625), (470, 205, 1645), (473, 202, 1633), (476, 203, 1637), (479, 204, 1641), (484, 219, 1702), (488, 220, 1706), (491, 221, 1710), (494, 228, 1739), (497, 234, 1763), (500, 235, 1767), (503, 237, 1775), (506, 238, 1779), (512, 247, 1815), (515, 246, 1811), (518, 250, 1827), (524, 253, 1839), (527, 255, 1847), (540, 261, 1872), (543, 170, 1507), (546, 175, 1527), (549, 172, 1515), (552, 166, 1489), (555, 167, 1493), (558, 165, 1485), (561, 168, 1499), (564, 169, 1503), (567, 171, 1511), (570, 174, 1523), (573, 176, 1530), (576, 177, 1534), (579, 164, 1481), (582, 173, 1519), (585, 179, 1542), (588, 180, 1546), (591, 181, 1550), (594, 182, 1554), (601, 211, 1669), (605, 212, 1674), (609, 265, 1894), (623, 263, 1885), (626, 264, 1890), (629, 266, 1898), (636, 271, 1918), (639, 270, 1914), (643, 272, 1923), (647, 275, 1934), (650, 274, 1930)]
def cl_10 : List (Nat × Value × Nat) := [(222, .long (99), 1737), (281, .long (27), 1471), (283, .long (97), 1472), (288, .long (5), 1497), (290, .long (7), 1498), (453, .int (999999), 1738), (482, .long (2), 1697), (530, .long (9), 1859), (532, .long (1103515245), 1876), (534, .long (12345), 1877), (536, .long (2147483648), 1878), (538, .long (64), 1879), (597, .long (1000000), 1672), (599, .long (-1000000), 1673), (616, .long (-1), 1889), (621, .long (-1000000000000000), 1884), (642, .int (65536), 1922)]
def fl_11 : List (Nat × Nat × Nat × Nat) := []
def ml_11 : List (Nat × Nat × Nat) := []
def cl_11 : List (Nat × Value × Nat) := []
def fl_12 : List (Nat × Nat × Nat × Nat) := []
def ml_12 : List (Nat × Nat × Nat) := [(9, 0, 146), (12, 142, 1094), (13, 1, 495), (17, 143, 1398), (18, 4, 507), (22, 144, 1402), (23, 5, 511), (27, 145, 1406), (28, 8, 673), (32, 188, 1578), (33, 9, 677), (36, 189, 1582), (37, 11, 704), (41, 199, 1621), (42, 13, 716), (45, 201, 1629), (46, 16, 773), (49, 213, 1677), (50, 17, 787), (53, 216, 1689), (54, 18, 791), (57, 217, 1693), (58, 19, 800), (61, 218, 1698), (62, 21, 842), (65, 230, 1747), (66, 22, 846), (69, 231, 1751), (70, 23, 850), (73, 232, 1755), (74, 24, 855), (77, 233, 1759), (78, 25, 872), (81, 236, 1771), (82, 27, 889), (85, 239, 1783), (86, 28, 897), (89, 240, 1787), (90, 29, 901), (93, 241, 1791), (94, 30, 914), (97, 242, 1795), (98, 33, 928), (101, 243, 1799), (102, 35, 936), (105, 244, 1803), (106, 37, 948), (109, 245, 1807), (110, 38, 952), (113, 248, 1819), (114, 39, 960), (117, 249, 1823), (118, 40, 974), (121, 252, 1835), (122, 41, 985), (125, 254, 1843), (126, 42, 990), (129, 256, 1851), (130, 43, 994), (134, 257, 1855), (135, 44, 998), (138, 258, 1860), (139, 45, 1002), (142, 260, 1868), (143, 48, 1017), (147, 251, 1831), (148, 49, 1025), (151, 259, 1864), (152, 50, 1029), (156, 262, 1880), (157, 52, 1052), (160, 269, 1910), (161, 55, 1063), (164, 267, 1902), (165, 56, 1067), (168, 273, 1926), (169, 61, 1088), (172, 268, 1906)]
def cl_12 : List (Nat × Value × Nat) := []
def fl_13 : List (Nat × Nat × Nat × Nat) := []
def ml_13 : List (Nat × Nat × Nat) := []
def cl_13 : List (Nat × Value × Nat) := [(265, .int (1431655765), 688), (266, .int (858993459), 689), (267, .int (252645135), 690)]
def fl_14 : List (Nat × Nat × Nat × Nat) := []
def ml_14 : List (Nat × Nat × Nat) := []
def cl_14 : List (Nat × Value × Nat) := []
def fl_15 : List (Nat × Nat × Nat × Nat) := []
def ml_15 : List (Nat × Nat × Nat) := []
def cl_15 : List (Nat × Value × Nat) := []
def flL : List (List (Nat × Nat × Nat × Nat)) := [fl_0, fl_1, fl_2, fl_3, fl_4, fl_5, fl_6, fl_7, fl_8, fl_9, fl_10, fl_11, fl_12, fl_13, fl_14, fl_15]
def mlL : List (List (Nat × Nat × Nat)) := [ml_0, ml_1, ml_2, ml_3, ml_4, ml_5, ml_6, ml_7, ml_8, ml_9, ml_10, ml_11, ml_12, ml_13, ml_14, ml_15]
def clL : List (List (Nat × Value × Nat)) := [cl_0, cl_1, cl_2, cl_3, cl_4, cl_5, cl_6, cl_7, cl_8, cl_9, cl_10, cl_11, cl_12, cl_13, cl_14, cl_15]
def mFl (own : Nat) : List (Nat × Nat × Nat × Nat) := flL.getD own []
def mMl (own : Nat) : List (Nat × Nat × Nat) := mlL.getD own []
def mCl (own : Nat) : List (Nat × Value × Nat) := clL.getD own []
def iArrI : Nat := 176
theorem w_arr_int : Cond.arrayClass .int ∈ lw_tbl := List.mem_of_getElem? (i := 176) (by decide +kernel)
theorem w_arr_char : Cond.arrayClass .char ∈ lw_tbl := List.mem_of_getElem? (i := 1396) (by decide +kernel)
theorem w_arr_boolean : Cond.arrayClass .boolean ∈ lw_tbl := List.mem_of_getElem? (i := 1397) (by decide +kernel)
theorem w_arr_long : Cond.arrayClass .long ∈ lw_tbl := List.mem_of_getElem? (i := 177) (by decide +kernel)
theorem w_cp_Pl_81 : Cond.methodLink "PorterDoors$Plan" 81 arraycopyName ∈ lw_tbl := List.mem_of_getElem? (i := 636) (by decide +kernel)
theorem w_cp_Pg_19 : Cond.methodLink "PorterDoors$Program" 19 arraycopyName ∈ lw_tbl := List.mem_of_getElem? (i := 643) (by decide +kernel)
theorem w_cp_Ha_24 : Cond.methodLink "PorterDoors$Hall" 24 arraycopyName ∈ lw_tbl := List.mem_of_getElem? (i := 648) (by decide +kernel)
theorem w_cp_Pa_25 : Cond.methodLink "PorterDoors$Past" 25 arraycopyName ∈ lw_tbl := List.mem_of_getElem? (i := 982) (by decide +kernel)
theorem w_cp_native : Cond.native arraycopyName ∈ lw_tbl := List.mem_of_getElem? (i := 638) (by decide +kernel)
theorem w_cp_static : Cond.static arraycopyName ∈ lw_tbl := List.mem_of_getElem? (i := 637) (by decide +kernel)
theorem w_cp_init : Cond.initialized "java/lang/System" ∈ lw_tbl := List.mem_of_getElem? (i := 142) (by decide +kernel)
theorem w_spell : Cond.fieldLinkNest "PorterDoors$Reader" 169 "PorterDoors$Words" "SPELLED" "[J" "PorterDoors" ∈ lw_tbl := List.mem_of_getElem? (i := 551) (by decide +kernel)
theorem w_inst_0 : Cond.instantiable "PorterDoors" 17 ∈ lw_tbl := List.mem_of_getElem? (i := 145) (by decide +kernel)
theorem w_inst_1 : Cond.instantiable "PorterDoors$Ahead" 6 ∈ lw_tbl := List.mem_of_getElem? (i := 370) (by decide +kernel)
theorem w_inst_2 : Cond.instantiable "PorterDoors$Hall" 1 ∈ lw_tbl := List.mem_of_getElem? (i := 297) (by decide +kernel)
theorem w_inst_3 : Cond.instantiable "PorterDoors$Past" 3 ∈ lw_tbl := List.mem_of_getElem? (i := 313) (by decide +kernel)
theorem w_inst_4 : Cond.instantiable "PorterDoors$Plan" 13 ∈ lw_tbl := List.mem_of_getElem? (i := 153) (by decide +kernel)
theorem w_inst_5 : Cond.instantiable "PorterDoors$Program" 2 ∈ lw_tbl := List.mem_of_getElem? (i := 159) (by decide +kernel)
theorem w_inst_6 : Cond.instantiable "PorterDoors$Reader" 14 ∈ lw_tbl := List.mem_of_getElem? (i := 246) (by decide +kernel)
theorem w_inst_7 : Cond.instantiable "PorterDoors$Rounds" 4 ∈ lw_tbl := List.mem_of_getElem? (i := 351) (by decide +kernel)
theorem w_inst_8 : Cond.instantiable "PorterDoors$Sets" 11 ∈ lw_tbl := List.mem_of_getElem? (i := 399) (by decide +kernel)
theorem w_inst_9 : Cond.instantiable "PorterDoors$Sums" 4 ∈ lw_tbl := List.mem_of_getElem? (i := 330) (by decide +kernel)
theorem w_inst_10 : Cond.instantiable "PorterDoorsModel" 99 ∈ lw_tbl := List.mem_of_getElem? (i := 1093) (by decide +kernel)
