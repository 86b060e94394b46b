def R_Always : String := "PredictorKinds$Always"
def R_Chooser : String := "PredictorKinds$Chooser"
def R_Coin : String := "PredictorKinds$Coin"
def R_Counters : String := "PredictorKinds$Counters"
def R_Last : String := "PredictorKinds$Last"
def R_Loops : String := "PredictorKinds$Loops"
def R_Own : String := "PredictorKinds$Own"
def R_Sums : String := "PredictorKinds$Sums"
def R_Tagged : String := "PredictorKinds$Tagged"
def R_Waiting : String := "PredictorKinds$Waiting"
def R_PK : String := "PredictorKinds"
def R_Md : String := "PredictorKindsModel"
def R_Kind : String := "PredictorKinds$Kind"
def R_Lw : String := "PredictorKindsLaw"
def R_Math : String := "java/lang/Math"
def R_Arrays : String := "java/util/Arrays"
def T_Always : u_T := fun k => match k with
  | 0 => ("PredictorKinds$Kind", "size", "I", true)
  | 1 => ("PredictorKinds$Kind", "rows", "I", true)
  | _ => ("PredictorKinds$Kind", "mask", "I", true)
def ty_Always : Nat → FieldType := fun k => match k with
  | 0 => .int
  | 1 => .int
  | _ => .int
theorem nm_Always : ∀ a, a < 3 → ∀ b, b < 3 → a ≠ b → (T_Always a).2.1 ≠ (T_Always b).2.1 := by decide +kernel
theorem tk_Always : ∀ k, k < 3 → parseFieldDescriptor (T_Always k).2.2.1 = some (ty_Always k) := by decide +kernel
theorem in_Always : ∀ w ∈ u_ws R_Always T_Always 3, w ∈ GW := gw_list (ps := [237, 238, 239]) (by decide +kernel) (by decide +kernel)
def T_Chooser : u_T := fun k => match k with
  | 0 => ("PredictorKinds$Kind", "size", "I", true)
  | 1 => ("PredictorKinds$Kind", "rows", "I", true)
  | 2 => ("PredictorKinds$Kind", "mask", "I", true)
  | 3 => ("PredictorKinds$Chooser", "plain", "LPredictorKinds$Counters;", true)
  | 4 => ("PredictorKinds$Chooser", "mixed", "LPredictorKinds$Counters;", true)
  | _ => ("PredictorKinds$Chooser", "choosers", "[I", true)
def ty_Chooser : Nat → FieldType := fun k => match k with
  | 0 => .int
  | 1 => .int
  | 2 => .int
  | 3 => .object "PredictorKinds$Counters"
  | 4 => .object "PredictorKinds$Counters"
  | _ => .array .int
theorem nm_Chooser : ∀ a, a < 6 → ∀ b, b < 6 → a ≠ b → (T_Chooser a).2.1 ≠ (T_Chooser b).2.1 := by decide +kernel
theorem tk_Chooser : ∀ k, k < 6 → parseFieldDescriptor (T_Chooser k).2.2.1 = some (ty_Chooser k) := by decide +kernel
theorem in_Chooser : ∀ w ∈ u_ws R_Chooser T_Chooser 6, w ∈ GW := gw_list (ps := [147, 148, 149, 141, 143, 145]) (by decide +kernel) (by decide +kernel)
def T_Coin : u_T := fun k => match k with
  | 0 => ("PredictorKinds$Kind", "size", "I", true)
  | 1 => ("PredictorKinds$Kind", "rows", "I", true)
  | 2 => ("PredictorKinds$Kind", "mask", "I", true)
  | _ => ("PredictorKinds$Coin", "state", "I", false)
def ty_Coin : Nat → FieldType := fun k => match k with
  | 0 => .int
  | 1 => .int
  | 2 => .int
  | _ => .int
theorem nm_Coin : ∀ a, a < 4 → ∀ b, b < 4 → a ≠ b → (T_Coin a).2.1 ≠ (T_Coin b).2.1 := by decide +kernel
theorem tk_Coin : ∀ k, k < 4 → parseFieldDescriptor (T_Coin k).2.2.1 = some (ty_Coin k) := by decide +kernel
theorem in_Coin : ∀ w ∈ u_ws R_Coin T_Coin 4, w ∈ GW := gw_list (ps := [227, 228, 229, 225]) (by decide +kernel) (by decide +kernel)
def T_Counters : u_T := fun k => match k with
  | 0 => ("PredictorKinds$Kind", "size", "I", true)
  | 1 => ("PredictorKinds$Kind", "rows", "I", true)
  | 2 => ("PredictorKinds$Kind", "mask", "I", true)
  | 3 => ("PredictorKinds$Counters", "mixed", "Z", true)
  | _ => ("PredictorKinds$Counters", "counters", "[I", true)
def ty_Counters : Nat → FieldType := fun k => match k with
  | 0 => .int
  | 1 => .int
  | 2 => .int
  | 3 => .boolean
  | _ => .array .int
theorem nm_Counters : ∀ a, a < 5 → ∀ b, b < 5 → a ≠ b → (T_Counters a).2.1 ≠ (T_Counters b).2.1 := by decide +kernel
theorem tk_Counters : ∀ k, k < 5 → parseFieldDescriptor (T_Counters k).2.2.1 = some (ty_Counters k) := by decide +kernel
theorem in_Counters : ∀ w ∈ u_ws R_Counters T_Counters 5, w ∈ GW := gw_list (ps := [108, 109, 110, 104, 106]) (by decide +kernel) (by decide +kernel)
def T_Last : u_T := fun k => match k with
  | 0 => ("PredictorKinds$Kind", "size", "I", true)
  | 1 => ("PredictorKinds$Kind", "rows", "I", true)
  | 2 => ("PredictorKinds$Kind", "mask", "I", true)
  | _ => ("PredictorKinds$Last", "outcomes", "[I", true)
def ty_Last : Nat → FieldType := fun k => match k with
  | 0 => .int
  | 1 => .int
  | 2 => .int
  | _ => .array .int
theorem nm_Last : ∀ a, a < 4 → ∀ b, b < 4 → a ≠ b → (T_Last a).2.1 ≠ (T_Last b).2.1 := by decide +kernel
theorem tk_Last : ∀ k, k < 4 → parseFieldDescriptor (T_Last k).2.2.1 = some (ty_Last k) := by decide +kernel
theorem in_Last : ∀ w ∈ u_ws R_Last T_Last 4, w ∈ GW := gw_list (ps := [87, 89, 91, 85]) (by decide +kernel) (by decide +kernel)
def T_Loops : u_T := fun k => match k with
  | 0 => ("PredictorKinds$Kind", "size", "I", true)
  | 1 => ("PredictorKinds$Kind", "rows", "I", true)
  | 2 => ("PredictorKinds$Kind", "mask", "I", true)
  | 3 => ("PredictorKinds$Loops", "base", "LPredictorKinds$Counters;", true)
  | 4 => ("PredictorKinds$Loops", "tags", "[I", true)
  | 5 => ("PredictorKinds$Loops", "lengths", "[I", true)
  | 6 => ("PredictorKinds$Loops", "counts", "[I", true)
  | _ => ("PredictorKinds$Loops", "trusts", "[I", true)
def ty_Loops : Nat → FieldType := fun k => match k with
  | 0 => .int
  | 1 => .int
  | 2 => .int
  | 3 => .object "PredictorKinds$Counters"
  | 4 => .array .int
  | 5 => .array .int
  | 6 => .array .int
  | _ => .array .int
theorem nm_Loops : ∀ a, a < 8 → ∀ b, b < 8 → a ≠ b → (T_Loops a).2.1 ≠ (T_Loops b).2.1 := by decide +kernel
theorem tk_Loops : ∀ k, k < 8 → parseFieldDescriptor (T_Loops k).2.2.1 = some (ty_Loops k) := by decide +kernel
theorem in_Loops : ∀ w ∈ u_ws R_Loops T_Loops 8, w ∈ GW := gw_list (ps := [214, 215, 216, 204, 206, 208, 210, 212]) (by decide +kernel) (by decide +kernel)
def T_Own : u_T := fun k => match k with
  | 0 => ("PredictorKinds$Kind", "size", "I", true)
  | 1 => ("PredictorKinds$Kind", "rows", "I", true)
  | 2 => ("PredictorKinds$Kind", "mask", "I", true)
  | 3 => ("PredictorKinds$Own", "histories", "[I", true)
  | _ => ("PredictorKinds$Own", "counters", "[I", true)
def ty_Own : Nat → FieldType := fun k => match k with
  | 0 => .int
  | 1 => .int
  | 2 => .int
  | 3 => .array .int
  | _ => .array .int
theorem nm_Own : ∀ a, a < 5 → ∀ b, b < 5 → a ≠ b → (T_Own a).2.1 ≠ (T_Own b).2.1 := by decide +kernel
theorem tk_Own : ∀ k, k < 5 → parseFieldDescriptor (T_Own k).2.2.1 = some (ty_Own k) := by decide +kernel
theorem in_Own : ∀ w ∈ u_ws R_Own T_Own 5, w ∈ GW := gw_list (ps := [125, 126, 127, 121, 123]) (by decide +kernel) (by decide +kernel)
def T_Sums : u_T := fun k => match k with
  | 0 => ("PredictorKinds$Kind", "size", "I", true)
  | 1 => ("PredictorKinds$Kind", "rows", "I", true)
  | 2 => ("PredictorKinds$Kind", "mask", "I", true)
  | _ => ("PredictorKinds$Sums", "weights", "[I", true)
def ty_Sums : Nat → FieldType := fun k => match k with
  | 0 => .int
  | 1 => .int
  | 2 => .int
  | _ => .array .int
theorem nm_Sums : ∀ a, a < 4 → ∀ b, b < 4 → a ≠ b → (T_Sums a).2.1 ≠ (T_Sums b).2.1 := by decide +kernel
theorem tk_Sums : ∀ k, k < 4 → parseFieldDescriptor (T_Sums k).2.2.1 = some (ty_Sums k) := by decide +kernel
theorem in_Sums : ∀ w ∈ u_ws R_Sums T_Sums 4, w ∈ GW := gw_list (ps := [186, 187, 188, 184]) (by decide +kernel) (by decide +kernel)
def T_Tagged : u_T := fun k => match k with
  | 0 => ("PredictorKinds$Kind", "size", "I", true)
  | 1 => ("PredictorKinds$Kind", "rows", "I", true)
  | 2 => ("PredictorKinds$Kind", "mask", "I", true)
  | 3 => ("PredictorKinds$Tagged", "base", "LPredictorKinds$Counters;", true)
  | 4 => ("PredictorKinds$Tagged", "tags", "[I", true)
  | 5 => ("PredictorKinds$Tagged", "sums", "[I", true)
  | _ => ("PredictorKinds$Tagged", "uses", "[I", true)
def ty_Tagged : Nat → FieldType := fun k => match k with
  | 0 => .int
  | 1 => .int
  | 2 => .int
  | 3 => .object "PredictorKinds$Counters"
  | 4 => .array .int
  | 5 => .array .int
  | _ => .array .int
theorem nm_Tagged : ∀ a, a < 7 → ∀ b, b < 7 → a ≠ b → (T_Tagged a).2.1 ≠ (T_Tagged b).2.1 := by decide +kernel
theorem tk_Tagged : ∀ k, k < 7 → parseFieldDescriptor (T_Tagged k).2.2.1 = some (ty_Tagged k) := by decide +kernel
theorem in_Tagged : ∀ w ∈ u_ws R_Tagged T_Tagged 7, w ∈ GW := gw_list (ps := [172, 173, 174, 164, 166, 168, 170]) (by decide +kernel) (by decide +kernel)
def T_Waiting : u_T := fun k => match k with
  | 0 => ("PredictorKinds$Waiting", "places", "[I", true)
  | 1 => ("PredictorKinds$Waiting", "histories", "[I", true)
  | 2 => ("PredictorKinds$Waiting", "answers", "[I", true)
  | _ => ("PredictorKinds$Waiting", "used", "I", false)
def ty_Waiting : Nat → FieldType := fun k => match k with
  | 0 => .array .int
  | 1 => .array .int
  | 2 => .array .int
  | _ => .int
theorem nm_Waiting : ∀ a, a < 4 → ∀ b, b < 4 → a ≠ b → (T_Waiting a).2.1 ≠ (T_Waiting b).2.1 := by decide +kernel
theorem tk_Waiting : ∀ k, k < 4 → parseFieldDescriptor (T_Waiting k).2.2.1 = some (ty_Waiting k) := by decide +kernel
theorem in_Waiting : ∀ w ∈ u_ws R_Waiting T_Waiting 4, w ∈ GW := gw_list (ps := [252, 254, 256, 258]) (by decide +kernel) (by decide +kernel)
def T_PK : u_T := fun k => match k with
  | 0 => ("PredictorKinds", "kindNumber", "I", true)
  | 1 => ("PredictorKinds", "size", "I", true)
  | 2 => ("PredictorKinds", "kind", "LPredictorKinds$Kind;", true)
  | 3 => ("PredictorKinds", "waiting", "LPredictorKinds$Waiting;", true)
  | 4 => ("PredictorKinds", "marks", "[I", true)
  | 5 => ("PredictorKinds", "markCount", "I", false)
  | 6 => ("PredictorKinds", "past", "I", false)
  | 7 => ("PredictorKinds", "isEarly", "Z", false)
  | 8 => ("PredictorKinds", "updates", "I", false)
  | 9 => ("PredictorKinds", "wrongs", "I", false)
  | 10 => ("PredictorKinds", "takens", "I", false)
  | _ => ("PredictorKinds", "corrections", "I", false)
def ty_PK : Nat → FieldType := fun k => match k with
  | 0 => .int
  | 1 => .int
  | 2 => .object "PredictorKinds$Kind"
  | 3 => .object "PredictorKinds$Waiting"
  | 4 => .array .int
  | 5 => .int
  | 6 => .int
  | 7 => .boolean
  | 8 => .int
  | 9 => .int
  | 10 => .int
  | _ => .int
theorem nm_PK : ∀ a, a < 12 → ∀ b, b < 12 → a ≠ b → (T_PK a).2.1 ≠ (T_PK b).2.1 := by decide +kernel
theorem tk_PK : ∀ k, k < 12 → parseFieldDescriptor (T_PK k).2.2.1 = some (ty_PK k) := by decide +kernel
theorem in_PK : ∀ w ∈ u_ws R_PK T_PK 12, w ∈ GW := gw_list (ps := [274, 276, 278, 280, 282, 284, 286, 288, 290, 292, 294, 296]) (by decide +kernel) (by decide +kernel)
def T_Md : u_T := fun k => match k with
  | 0 => ("PredictorKindsModel", "thrown", "I", false)
  | 1 => ("PredictorKindsModel", "kind", "I", true)
  | 2 => ("PredictorKindsModel", "bits", "I", true)
  | 3 => ("PredictorKindsModel", "rows", "I", true)
  | 4 => ("PredictorKindsModel", "history", "I", false)
  | 5 => ("PredictorKindsModel", "coin", "I", false)
  | 6 => ("PredictorKindsModel", "early", "Z", false)
  | 7 => ("PredictorKindsModel", "updates", "I", false)
  | 8 => ("PredictorKindsModel", "wrongs", "I", false)
  | 9 => ("PredictorKindsModel", "takens", "I", false)
  | 10 => ("PredictorKindsModel", "corrected", "I", false)
  | 11 => ("PredictorKindsModel", "lastBit", "[I", true)
  | 12 => ("PredictorKindsModel", "plain", "[I", true)
  | 13 => ("PredictorKindsModel", "mixed", "[I", true)
  | 14 => ("PredictorKindsModel", "chooser", "[I", true)
  | 15 => ("PredictorKindsModel", "own", "[I", true)
  | 16 => ("PredictorKindsModel", "ownCounter", "[I", true)
  | 17 => ("PredictorKindsModel", "tag", "[I", true)
  | 18 => ("PredictorKindsModel", "sum", "[I", true)
  | 19 => ("PredictorKindsModel", "use", "[I", true)
  | 20 => ("PredictorKindsModel", "weight", "[I", true)
  | 21 => ("PredictorKindsModel", "loopTag", "[I", true)
  | 22 => ("PredictorKindsModel", "length", "[I", true)
  | 23 => ("PredictorKindsModel", "count", "[I", true)
  | 24 => ("PredictorKindsModel", "trust", "[I", true)
  | 25 => ("PredictorKindsModel", "waiting", "I", false)
  | 26 => ("PredictorKindsModel", "waitPlace", "[I", true)
  | 27 => ("PredictorKindsModel", "waitHistory", "[I", true)
  | 28 => ("PredictorKindsModel", "waitSaid", "[Z", true)
  | 29 => ("PredictorKindsModel", "marks", "I", false)
  | _ => ("PredictorKindsModel", "mark", "[I", true)
def ty_Md : Nat → FieldType := fun k => match k with
  | 0 => .int
  | 1 => .int
  | 2 => .int
  | 3 => .int
  | 4 => .int
  | 5 => .int
  | 6 => .boolean
  | 7 => .int
  | 8 => .int
  | 9 => .int
  | 10 => .int
  | 11 => .array .int
  | 12 => .array .int
  | 13 => .array .int
  | 14 => .array .int
  | 15 => .array .int
  | 16 => .array .int
  | 17 => .array .int
  | 18 => .array .int
  | 19 => .array .int
  | 20 => .array .int
  | 21 => .array .int
  | 22 => .array .int
  | 23 => .array .int
  | 24 => .array .int
  | 25 => .int
  | 26 => .array .int
  | 27 => .array .int
  | 28 => .array .boolean
  | 29 => .int
  | _ => .array .int
theorem nm_Md : ∀ a, a < 31 → ∀ b, b < 31 → a ≠ b → (T_Md a).2.1 ≠ (T_Md b).2.1 := by decide +kernel
theorem tk_Md : ∀ k, k < 31 → parseFieldDescriptor (T_Md k).2.2.1 = some (ty_Md k) := by decide +kernel
theorem in_Md : ∀ w ∈ u_ws R_Md T_Md 31, w ∈ GW := gw_list (ps := [826, 828, 830, 832, 834, 836, 838, 840, 842, 844, 846, 848, 850, 852, 854, 856, 858, 860, 862, 864, 866, 868, 870, 872, 874, 876, 878, 880, 882, 884, 886]) (by decide +kernel) (by decide +kernel)
abbrev vwCl : List vw_C := [(R_Always, T_Always, 3), (R_Chooser, T_Chooser, 6), (R_Coin, T_Coin, 4), (R_Counters, T_Counters, 5), (R_Last, T_Last, 4), (R_Loops, T_Loops, 8), (R_Own, T_Own, 5), (R_Sums, T_Sums, 4), (R_Tagged, T_Tagged, 7), (R_Waiting, T_Waiting, 4), (R_PK, T_PK, 12), (R_Md, T_Md, 31)]
def nwl : List Nat := [49, 101, 118, 137, 159, 182, 198, 243, 247, 304, 318, 322, 336, 340, 354, 369, 385, 400, 401, 413, 419, 442, 456, 462, 470, 482, 491, 500, 509, 513, 514, 515, 522, 531, 536, 566, 618, 673, 674, 675, 676, 677, 678]
def nws : List Cond := nwl.filterMap (fun i => tables_1[i]?)
