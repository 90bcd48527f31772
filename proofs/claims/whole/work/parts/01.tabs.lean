/-! names and tables, printed by program out of the claim's own texts -/
def RX0 : String := "GaleRoof$Fate"
def TX0 : u_T := fun k => match k with
  | 0 => ("GaleRoof$Fate", "gale", "LGaleRoof$Gale;", true)
  | 1 => ("GaleRoof$Fate", "now", "LGaleRoof$Scene;", true)
  | _ => ("GaleRoof$Fate", "trial", "LGaleRoof$Roof;", true)
def tyX0 : Nat → FieldType := fun k => match k with
  | 0 => .object "GaleRoof$Gale"
  | 1 => .object "GaleRoof$Scene"
  | _ => .object "GaleRoof$Roof"
theorem nmX0 : ∀ a, a < 3 → ∀ b, b < 3 → a ≠ b → (TX0 a).2.1 ≠ (TX0 b).2.1 := by decide +kernel
theorem tyX0_ok : ∀ k, k < 3 → parseFieldDescriptor (TX0 k).2.2.1 = some (tyX0 k) := by decide +kernel
def RX1 : String := "GaleRoof$Gale"
def TX1 : u_T := fun k => match k with
  | 0 => ("GaleRoof$Gale", "order", "[I", true)
  | 1 => ("GaleRoof$Gale", "roundOf", "[I", true)
  | 2 => ("GaleRoof$Gale", "cellOf", "[I", true)
  | 3 => ("GaleRoof$Gale", "fallenCount", "I", false)
  | 4 => ("GaleRoof$Gale", "rounds", "I", false)
  | 5 => ("GaleRoof$Gale", "sucks", "I", false)
  | 6 => ("GaleRoof$Gale", "presses", "I", false)
  | 7 => ("GaleRoof$Gale", "keeps", "I", false)
  | 8 => ("GaleRoof$Gale", "told", "LGaleRoof$Told;", false)
  | 9 => ("GaleRoof$Gale", "machine", "LGaleRoof$Machine;", true)
  | 10 => ("GaleRoof$Gale", "gone", "[I", true)
  | 11 => ("GaleRoof$Gale", "bare", "[I", true)
  | 12 => ("GaleRoof$Gale", "holes", "I", false)
  | 13 => ("GaleRoof$Gale", "doorsIn", "I", false)
  | _ => ("GaleRoof$Gale", "doorsOut", "I", false)
def tyX1 : Nat → FieldType := fun k => match k with
  | 0 => .array .int
  | 1 => .array .int
  | 2 => .array .int
  | 3 => .int
  | 4 => .int
  | 5 => .int
  | 6 => .int
  | 7 => .int
  | 8 => .object "GaleRoof$Told"
  | 9 => .object "GaleRoof$Machine"
  | 10 => .array .int
  | 11 => .array .int
  | 12 => .int
  | 13 => .int
  | _ => .int
theorem nmX1 : ∀ a, a < 15 → ∀ b, b < 15 → a ≠ b → (TX1 a).2.1 ≠ (TX1 b).2.1 := by decide +kernel
theorem tyX1_ok : ∀ k, k < 15 → parseFieldDescriptor (TX1 k).2.2.1 = some (tyX1 k) := by decide +kernel
def RX2 : String := "GaleRoof$Machine"
def TX2 : u_T := fun k => match k with
  | 0 => ("GaleRoof$Machine", "vars", "[I", true)
  | _ => ("GaleRoof$Machine", "stack", "[I", true)
def tyX2 : Nat → FieldType := fun k => match k with
  | 0 => .array .int
  | _ => .array .int
theorem nmX2 : ∀ a, a < 2 → ∀ b, b < 2 → a ≠ b → (TX2 a).2.1 ≠ (TX2 b).2.1 := by decide +kernel
theorem tyX2_ok : ∀ k, k < 2 → parseFieldDescriptor (TX2 k).2.2.1 = some (tyX2 k) := by decide +kernel
def RX3 : String := "GaleRoof$Planner"
def TX3 : u_T := fun k => match k with
  | 0 => ("GaleRoof$Planner", "nails", "[I", true)
  | 1 => ("GaleRoof$Planner", "steps", "[I", true)
  | 2 => ("GaleRoof$Planner", "nailsCount", "I", false)
  | 3 => ("GaleRoof$Planner", "nailsHarm", "I", false)
  | 4 => ("GaleRoof$Planner", "stepsCount", "I", false)
  | 5 => ("GaleRoof$Planner", "stepsHarm", "I", false)
  | 6 => ("GaleRoof$Planner", "gale", "LGaleRoof$Gale;", true)
  | 7 => ("GaleRoof$Planner", "now", "LGaleRoof$Scene;", true)
  | 8 => ("GaleRoof$Planner", "trial", "LGaleRoof$Roof;", true)
  | 9 => ("GaleRoof$Planner", "nailsFor", "I", false)
  | _ => ("GaleRoof$Planner", "stepsFor", "I", false)
def tyX3 : Nat → FieldType := fun k => match k with
  | 0 => .array .int
  | 1 => .array .int
  | 2 => .int
  | 3 => .int
  | 4 => .int
  | 5 => .int
  | 6 => .object "GaleRoof$Gale"
  | 7 => .object "GaleRoof$Scene"
  | 8 => .object "GaleRoof$Roof"
  | 9 => .int
  | _ => .int
theorem nmX3 : ∀ a, a < 11 → ∀ b, b < 11 → a ≠ b → (TX3 a).2.1 ≠ (TX3 b).2.1 := by decide +kernel
theorem tyX3_ok : ∀ k, k < 11 → parseFieldDescriptor (TX3 k).2.2.1 = some (tyX3 k) := by decide +kernel
def RX4 : String := "GaleRoof$Reader"
def TX4 : u_T := fun k => match k with
  | 0 => ("GaleRoof$Reader", "faultPlace", "I", false)
  | 1 => ("GaleRoof$Reader", "tape", "LGaleRoof$Tape;", true)
  | 2 => ("GaleRoof$Reader", "told", "LGaleRoof$Told;", false)
  | 3 => ("GaleRoof$Reader", "at", "I", false)
  | 4 => ("GaleRoof$Reader", "fault", "I", false)
  | 5 => ("GaleRoof$Reader", "lateFault", "I", false)
  | _ => ("GaleRoof$Reader", "latePlace", "I", false)
def tyX4 : Nat → FieldType := fun k => match k with
  | 0 => .int
  | 1 => .object "GaleRoof$Tape"
  | 2 => .object "GaleRoof$Told"
  | 3 => .int
  | 4 => .int
  | 5 => .int
  | _ => .int
theorem nmX4 : ∀ a, a < 7 → ∀ b, b < 7 → a ≠ b → (TX4 a).2.1 ≠ (TX4 b).2.1 := by decide +kernel
theorem tyX4_ok : ∀ k, k < 7 → parseFieldDescriptor (TX4 k).2.2.1 = some (tyX4 k) := by decide +kernel
def RX5 : String := "GaleRoof$Roof"
def TX5 : u_T := fun k => match k with
  | 0 => ("GaleRoof$Roof", "marks", "[[I", true)
  | 1 => ("GaleRoof$Roof", "tiles", "I", false)
  | 2 => ("GaleRoof$Roof", "openDoors", "I", false)
  | _ => ("GaleRoof$Roof", "felted", "Z", false)
def tyX5 : Nat → FieldType := fun k => match k with
  | 0 => .array (.array .int)
  | 1 => .int
  | 2 => .int
  | _ => .boolean
theorem nmX5 : ∀ a, a < 4 → ∀ b, b < 4 → a ≠ b → (TX5 a).2.1 ≠ (TX5 b).2.1 := by decide +kernel
theorem tyX5_ok : ∀ k, k < 4 → parseFieldDescriptor (TX5 k).2.2.1 = some (tyX5 k) := by decide +kernel
def RX6 : String := "GaleRoof$Scene"
def TX6 : u_T := fun k => match k with
  | 0 => ("GaleRoof$Scene", "roof", "LGaleRoof$Roof;", true)
  | 1 => ("GaleRoof$Scene", "lying", "[I", true)
  | 2 => ("GaleRoof$Scene", "carCell", "[I", true)
  | 3 => ("GaleRoof$Scene", "carHits", "[I", true)
  | 4 => ("GaleRoof$Scene", "gustPower", "[I", true)
  | 5 => ("GaleRoof$Scene", "gustWay", "[I", true)
  | 6 => ("GaleRoof$Scene", "gustWeight", "[I", true)
  | 7 => ("GaleRoof$Scene", "cars", "I", false)
  | 8 => ("GaleRoof$Scene", "gusts", "I", false)
  | _ => ("GaleRoof$Scene", "held", "Z", false)
def tyX6 : Nat → FieldType := fun k => match k with
  | 0 => .object "GaleRoof$Roof"
  | 1 => .array .int
  | 2 => .array .int
  | 3 => .array .int
  | 4 => .array .int
  | 5 => .array .int
  | 6 => .array .int
  | 7 => .int
  | 8 => .int
  | _ => .boolean
theorem nmX6 : ∀ a, a < 10 → ∀ b, b < 10 → a ≠ b → (TX6 a).2.1 ≠ (TX6 b).2.1 := by decide +kernel
theorem tyX6_ok : ∀ k, k < 10 → parseFieldDescriptor (TX6 k).2.2.1 = some (tyX6 k) := by decide +kernel
def RX7 : String := "GaleRoof$Tape"
def TX7 : u_T := fun k => match k with
  | 0 => ("GaleRoof$Tape", "kinds", "[I", true)
  | 1 => ("GaleRoof$Tape", "starts", "[I", true)
  | 2 => ("GaleRoof$Tape", "values", "[J", true)
  | 3 => ("GaleRoof$Tape", "size", "I", false)
  | 4 => ("GaleRoof$Tape", "bytes", "[B", true)
  | 5 => ("GaleRoof$Tape", "words", "[J", true)
  | 6 => ("GaleRoof$Tape", "at", "I", false)
  | _ => ("GaleRoof$Tape", "value", "J", false)
def tyX7 : Nat → FieldType := fun k => match k with
  | 0 => .array .int
  | 1 => .array .int
  | 2 => .array .long
  | 3 => .int
  | 4 => .array .byte
  | 5 => .array .long
  | 6 => .int
  | _ => .long
theorem nmX7 : ∀ a, a < 8 → ∀ b, b < 8 → a ≠ b → (TX7 a).2.1 ≠ (TX7 b).2.1 := by decide +kernel
theorem tyX7_ok : ∀ k, k < 8 → parseFieldDescriptor (TX7 k).2.2.1 = some (tyX7 k) := by decide +kernel
def RX8 : String := "GaleRoof$Teller"
def TX8 : u_T := fun k => match k with
  | 0 => ("GaleRoof$Teller", "bestGust", "I", false)
  | 1 => ("GaleRoof$Teller", "bestWay", "I", false)
  | 2 => ("GaleRoof$Teller", "leastApart", "I", false)
  | 3 => ("GaleRoof$Teller", "firstTile", "I", false)
  | 4 => ("GaleRoof$Teller", "fresh", "Z", false)
  | 5 => ("GaleRoof$Teller", "gale", "LGaleRoof$Gale;", true)
  | 6 => ("GaleRoof$Teller", "now", "LGaleRoof$Scene;", true)
  | 7 => ("GaleRoof$Teller", "whole", "LGaleRoof$Roof;", true)
  | _ => ("GaleRoof$Teller", "landed", "[I", true)
def tyX8 : Nat → FieldType := fun k => match k with
  | 0 => .int
  | 1 => .int
  | 2 => .int
  | 3 => .int
  | 4 => .boolean
  | 5 => .object "GaleRoof$Gale"
  | 6 => .object "GaleRoof$Scene"
  | 7 => .object "GaleRoof$Roof"
  | _ => .array .int
theorem nmX8 : ∀ a, a < 9 → ∀ b, b < 9 → a ≠ b → (TX8 a).2.1 ≠ (TX8 b).2.1 := by decide +kernel
theorem tyX8_ok : ∀ k, k < 9 → parseFieldDescriptor (TX8 k).2.2.1 = some (tyX8 k) := by decide +kernel
def RX9 : String := "GaleRoof$Told"
def TX9 : u_T := fun k => match k with
  | 0 => ("GaleRoof$Told", "numbers", "[I", true)
  | 1 => ("GaleRoof$Told", "doorSide", "[I", true)
  | 2 => ("GaleRoof$Told", "doorSize", "[I", true)
  | 3 => ("GaleRoof$Told", "doorName", "[J", true)
  | 4 => ("GaleRoof$Told", "code", "[I", true)
  | 5 => ("GaleRoof$Told", "lawFrom", "[I", true)
  | 6 => ("GaleRoof$Told", "lawTo", "[I", true)
  | 7 => ("GaleRoof$Told", "ruleFrom", "[I", true)
  | 8 => ("GaleRoof$Told", "ruleTo", "[I", true)
  | 9 => ("GaleRoof$Told", "ruleCount", "[I", true)
  | 10 => ("GaleRoof$Told", "rowOf", "[I", true)
  | 11 => ("GaleRoof$Told", "colOf", "[I", true)
  | 12 => ("GaleRoof$Told", "edgeOf", "[I", true)
  | 13 => ("GaleRoof$Told", "tiles", "I", false)
  | 14 => ("GaleRoof$Told", "doors", "I", false)
  | 15 => ("GaleRoof$Told", "openDoors", "I", false)
  | _ => ("GaleRoof$Told", "codeSize", "I", false)
def tyX9 : Nat → FieldType := fun k => match k with
  | 0 => .array .int
  | 1 => .array .int
  | 2 => .array .int
  | 3 => .array .long
  | 4 => .array .int
  | 5 => .array .int
  | 6 => .array .int
  | 7 => .array .int
  | 8 => .array .int
  | 9 => .array .int
  | 10 => .array .int
  | 11 => .array .int
  | 12 => .array .int
  | 13 => .int
  | 14 => .int
  | 15 => .int
  | _ => .int
theorem nmX9 : ∀ a, a < 17 → ∀ b, b < 17 → a ≠ b → (TX9 a).2.1 ≠ (TX9 b).2.1 := by decide +kernel
theorem tyX9_ok : ∀ k, k < 17 → parseFieldDescriptor (TX9 k).2.2.1 = some (tyX9 k) := by decide +kernel
def RX10 : String := "GaleRoof$Village"
def TX10 : u_T := fun k => match k with
  | 0 => ("GaleRoof$Village", "facts", "I", false)
  | 1 => ("GaleRoof$Village", "houses", "I", false)
  | 2 => ("GaleRoof$Village", "warnedOnes", "I", false)
  | 3 => ("GaleRoof$Village", "hurt", "I", false)
  | 4 => ("GaleRoof$Village", "both", "I", false)
  | 5 => ("GaleRoof$Village", "lineAge", "I", false)
  | 6 => ("GaleRoof$Village", "toldRight", "I", false)
  | 7 => ("GaleRoof$Village", "ages", "[I", true)
  | 8 => ("GaleRoof$Village", "ways", "[I", true)
  | 9 => ("GaleRoof$Village", "nails", "[I", true)
  | 10 => ("GaleRoof$Village", "losses", "[I", true)
  | 11 => ("GaleRoof$Village", "voids", "[I", true)
  | _ => ("GaleRoof$Village", "known", "[I", true)
def tyX10 : Nat → FieldType := fun k => match k with
  | 0 => .int
  | 1 => .int
  | 2 => .int
  | 3 => .int
  | 4 => .int
  | 5 => .int
  | 6 => .int
  | 7 => .array .int
  | 8 => .array .int
  | 9 => .array .int
  | 10 => .array .int
  | 11 => .array .int
  | _ => .array .int
theorem nmX10 : ∀ a, a < 13 → ∀ b, b < 13 → a ≠ b → (TX10 a).2.1 ≠ (TX10 b).2.1 := by decide +kernel
theorem tyX10_ok : ∀ k, k < 13 → parseFieldDescriptor (TX10 k).2.2.1 = some (tyX10 k) := by decide +kernel
def RX11 : String := "GaleRoof"
def TX11 : u_T := fun k => match k with
  | 0 => ("GaleRoof", "tape", "LGaleRoof$Tape;", true)
  | 1 => ("GaleRoof", "reader", "LGaleRoof$Reader;", true)
  | 2 => ("GaleRoof", "machine", "LGaleRoof$Machine;", true)
  | 3 => ("GaleRoof", "gale", "LGaleRoof$Gale;", true)
  | 4 => ("GaleRoof", "now", "LGaleRoof$Scene;", true)
  | 5 => ("GaleRoof", "slots", "[LGaleRoof$Scene;", true)
  | 6 => ("GaleRoof", "planner", "LGaleRoof$Planner;", true)
  | 7 => ("GaleRoof", "fate", "LGaleRoof$Fate;", true)
  | 8 => ("GaleRoof", "teller", "LGaleRoof$Teller;", true)
  | 9 => ("GaleRoof", "village", "LGaleRoof$Village;", true)
  | 10 => ("GaleRoof", "told", "LGaleRoof$Told;", false)
  | 11 => ("GaleRoof", "spare", "LGaleRoof$Told;", false)
  | _ => ("GaleRoof", "faultPlace", "I", false)
def tyX11 : Nat → FieldType := fun k => match k with
  | 0 => .object "GaleRoof$Tape"
  | 1 => .object "GaleRoof$Reader"
  | 2 => .object "GaleRoof$Machine"
  | 3 => .object "GaleRoof$Gale"
  | 4 => .object "GaleRoof$Scene"
  | 5 => .array (.object "GaleRoof$Scene")
  | 6 => .object "GaleRoof$Planner"
  | 7 => .object "GaleRoof$Fate"
  | 8 => .object "GaleRoof$Teller"
  | 9 => .object "GaleRoof$Village"
  | 10 => .object "GaleRoof$Told"
  | 11 => .object "GaleRoof$Told"
  | _ => .int
theorem nmX11 : ∀ a, a < 13 → ∀ b, b < 13 → a ≠ b → (TX11 a).2.1 ≠ (TX11 b).2.1 := by decide +kernel
theorem tyX11_ok : ∀ k, k < 13 → parseFieldDescriptor (TX11 k).2.2.1 = some (tyX11 k) := by decide +kernel
def RX12 : String := "GaleRoofModel"
def TX12 : u_T := fun k => match k with
  | 0 => ("GaleRoofModel", "thrown", "I", false)
  | 1 => ("GaleRoofModel", "tape", "[B", true)
  | 2 => ("GaleRoofModel", "taped", "I", false)
  | 3 => ("GaleRoofModel", "text", "[B", true)
  | 4 => ("GaleRoofModel", "size", "I", false)
  | 5 => ("GaleRoofModel", "tKind", "[I", true)
  | 6 => ("GaleRoofModel", "tPlace", "[I", true)
  | 7 => ("GaleRoofModel", "tValue", "[I", true)
  | 8 => ("GaleRoofModel", "tName", "[J", true)
  | 9 => ("GaleRoofModel", "keys", "[J", true)
  | 10 => ("GaleRoofModel", "tokens", "I", false)
  | 11 => ("GaleRoofModel", "t", "I", false)
  | 12 => ("GaleRoofModel", "open", "I", false)
  | 13 => ("GaleRoofModel", "fault", "I", false)
  | 14 => ("GaleRoofModel", "faultPlace", "I", false)
  | 15 => ("GaleRoofModel", "worst", "I", false)
  | 16 => ("GaleRoofModel", "worstPlace", "I", false)
  | 17 => ("GaleRoofModel", "place", "I", false)
  | 18 => ("GaleRoofModel", "live", "I", false)
  | 19 => ("GaleRoofModel", "side", "I", false)
  | 20 => ("GaleRoofModel", "names", "I", false)
  | 21 => ("GaleRoofModel", "nameOf", "[J", true)
  | 22 => ("GaleRoofModel", "rows", "[I", true)
  | 23 => ("GaleRoofModel", "cols", "[I", true)
  | 24 => ("GaleRoofModel", "faces", "[I", true)
  | 25 => ("GaleRoofModel", "told", "[I", true)
  | 26 => ("GaleRoofModel", "rules", "[I", true)
  | 27 => ("GaleRoofModel", "litFirst", "[I", true)
  | 28 => ("GaleRoofModel", "litLast", "[I", true)
  | 29 => ("GaleRoofModel", "isTold", "[Z", true)
  | 30 => ("GaleRoofModel", "lawFrom", "[I", true)
  | 31 => ("GaleRoofModel", "lawTo", "[I", true)
  | 32 => ("GaleRoofModel", "doors", "[I", true)
  | 33 => ("GaleRoofModel", "doorSide", "[I", true)
  | 34 => ("GaleRoofModel", "doorSize", "[I", true)
  | 35 => ("GaleRoofModel", "isOpenTold", "[Z", true)
  | 36 => ("GaleRoofModel", "lits", "I", false)
  | 37 => ("GaleRoofModel", "litSort", "[I", true)
  | 38 => ("GaleRoofModel", "litNot", "[Z", true)
  | 39 => ("GaleRoofModel", "litOr", "[Z", true)
  | 40 => ("GaleRoofModel", "litLeft", "[I", true)
  | 41 => ("GaleRoofModel", "litRight", "[I", true)
  | 42 => ("GaleRoofModel", "litEnd", "[I", true)
  | 43 => ("GaleRoofModel", "codes", "I", false)
  | 44 => ("GaleRoofModel", "code", "[I", true)
  | 45 => ("GaleRoofModel", "codeInt", "[I", true)
  | 46 => ("GaleRoofModel", "waits", "[I", true)
  | 47 => ("GaleRoofModel", "waiting", "I", false)
  | 48 => ("GaleRoofModel", "variables", "[I", true)
  | 49 => ("GaleRoofModel", "pile", "[I", true)
  | 50 => ("GaleRoofModel", "isBroken", "Z", false)
  | 51 => ("GaleRoofModel", "gone", "[Z", true)
  | 52 => ("GaleRoofModel", "nailed", "[Z", true)
  | 53 => ("GaleRoofModel", "clipped", "[Z", true)
  | 54 => ("GaleRoofModel", "age", "[I", true)
  | 55 => ("GaleRoofModel", "moss", "[I", true)
  | 56 => ("GaleRoofModel", "isOpen", "[Z", true)
  | 57 => ("GaleRoofModel", "isFelt", "Z", false)
  | 58 => ("GaleRoofModel", "yard", "[I", true)
  | 59 => ("GaleRoofModel", "cars", "I", false)
  | 60 => ("GaleRoofModel", "carAt", "[I", true)
  | 61 => ("GaleRoofModel", "carHits", "[I", true)
  | 62 => ("GaleRoofModel", "gusts", "I", false)
  | 63 => ("GaleRoofModel", "gustOf", "[I", true)
  | 64 => ("GaleRoofModel", "wayOf", "[I", true)
  | 65 => ("GaleRoofModel", "weightOf", "[I", true)
  | 66 => ("GaleRoofModel", "lost", "[Z", true)
  | 67 => ("GaleRoofModel", "roundOf", "[I", true)
  | 68 => ("GaleRoofModel", "landsAt", "[I", true)
  | 69 => ("GaleRoofModel", "rounds", "I", false)
  | 70 => ("GaleRoofModel", "lying", "[I", true)
  | 71 => ("GaleRoofModel", "ageWas", "[I", true)
  | 72 => ("GaleRoofModel", "chosen", "I", false)
  | 73 => ("GaleRoofModel", "choice", "[I", true)
  | 74 => ("GaleRoofModel", "mossWas", "[I", true)
  | 75 => ("GaleRoofModel", "wasNailed", "[Z", true)
  | 76 => ("GaleRoofModel", "agesWere", "[I", true)
  | 77 => ("GaleRoofModel", "firstYear", "I", false)
  | 78 => ("GaleRoofModel", "facts", "I", false)
  | 79 => ("GaleRoofModel", "voidOf", "[I", true)
  | 80 => ("GaleRoofModel", "houseAge", "[I", true)
  | 81 => ("GaleRoofModel", "houseWay", "[I", true)
  | 82 => ("GaleRoofModel", "houseNails", "[I", true)
  | 83 => ("GaleRoofModel", "houseLost", "[I", true)
  | 84 => ("GaleRoofModel", "isHeld", "[Z", true)
  | 85 => ("GaleRoofModel", "heldGone", "[Z", true)
  | 86 => ("GaleRoofModel", "heldNailed", "[Z", true)
  | 87 => ("GaleRoofModel", "heldClipped", "[Z", true)
  | 88 => ("GaleRoofModel", "heldAge", "[I", true)
  | 89 => ("GaleRoofModel", "heldMoss", "[I", true)
  | 90 => ("GaleRoofModel", "heldOpen", "[Z", true)
  | 91 => ("GaleRoofModel", "heldFelt", "[Z", true)
  | 92 => ("GaleRoofModel", "heldYard", "[I", true)
  | 93 => ("GaleRoofModel", "heldCars", "[I", true)
  | 94 => ("GaleRoofModel", "heldCarAt", "[I", true)
  | 95 => ("GaleRoofModel", "heldHits", "[I", true)
  | 96 => ("GaleRoofModel", "heldGusts", "[I", true)
  | 97 => ("GaleRoofModel", "heldGust", "[I", true)
  | 98 => ("GaleRoofModel", "heldWay", "[I", true)
  | _ => ("GaleRoofModel", "heldWeight", "[I", true)
def tyX12 : Nat → FieldType := fun k => match k with
  | 0 => .int
  | 1 => .array .byte
  | 2 => .int
  | 3 => .array .byte
  | 4 => .int
  | 5 => .array .int
  | 6 => .array .int
  | 7 => .array .int
  | 8 => .array .long
  | 9 => .array .long
  | 10 => .int
  | 11 => .int
  | 12 => .int
  | 13 => .int
  | 14 => .int
  | 15 => .int
  | 16 => .int
  | 17 => .int
  | 18 => .int
  | 19 => .int
  | 20 => .int
  | 21 => .array .long
  | 22 => .array .int
  | 23 => .array .int
  | 24 => .array .int
  | 25 => .array .int
  | 26 => .array .int
  | 27 => .array .int
  | 28 => .array .int
  | 29 => .array .boolean
  | 30 => .array .int
  | 31 => .array .int
  | 32 => .array .int
  | 33 => .array .int
  | 34 => .array .int
  | 35 => .array .boolean
  | 36 => .int
  | 37 => .array .int
  | 38 => .array .boolean
  | 39 => .array .boolean
  | 40 => .array .int
  | 41 => .array .int
  | 42 => .array .int
  | 43 => .int
  | 44 => .array .int
  | 45 => .array .int
  | 46 => .array .int
  | 47 => .int
  | 48 => .array .int
  | 49 => .array .int
  | 50 => .boolean
  | 51 => .array .boolean
  | 52 => .array .boolean
  | 53 => .array .boolean
  | 54 => .array .int
  | 55 => .array .int
  | 56 => .array .boolean
  | 57 => .boolean
  | 58 => .array .int
  | 59 => .int
  | 60 => .array .int
  | 61 => .array .int
  | 62 => .int
  | 63 => .array .int
  | 64 => .array .int
  | 65 => .array .int
  | 66 => .array .boolean
  | 67 => .array .int
  | 68 => .array .int
  | 69 => .int
  | 70 => .array .int
  | 71 => .array .int
  | 72 => .int
  | 73 => .array .int
  | 74 => .array .int
  | 75 => .array .boolean
  | 76 => .array .int
  | 77 => .int
  | 78 => .int
  | 79 => .array .int
  | 80 => .array .int
  | 81 => .array .int
  | 82 => .array .int
  | 83 => .array .int
  | 84 => .array .boolean
  | 85 => .array .boolean
  | 86 => .array .boolean
  | 87 => .array .boolean
  | 88 => .array .int
  | 89 => .array .int
  | 90 => .array .boolean
  | 91 => .array .boolean
  | 92 => .array .int
  | 93 => .array .int
  | 94 => .array .int
  | 95 => .array .int
  | 96 => .array .int
  | 97 => .array .int
  | 98 => .array .int
  | _ => .array .int
theorem nmX12 : ∀ a, a < 100 → ∀ b, b < 100 → a ≠ b → (TX12 a).2.1 ≠ (TX12 b).2.1 := by decide +kernel
theorem tyX12_ok : ∀ k, k < 100 → parseFieldDescriptor (TX12 k).2.2.1 = some (tyX12 k) := by decide +kernel
abbrev vwCl : List vw_C := [(RX0, TX0, 3), (RX1, TX1, 15), (RX2, TX2, 2), (RX3, TX3, 11), (RX4, TX4, 7), (RX5, TX5, 4), (RX6, TX6, 10), (RX7, TX7, 8), (RX8, TX8, 9), (RX9, TX9, 17), (RX10, TX10, 13), (RX11, TX11, 13), (RX12, TX12, 100)]
/-- the classes that own code, by number -/
def zCL : List String := ["GaleRoof$Fate", "GaleRoof$Gale", "GaleRoof$Machine", "GaleRoof$Planner", "GaleRoof$Reader", "GaleRoof$Roof", "GaleRoof$Scene", "GaleRoof$Tape", "GaleRoof$Teller", "GaleRoof$Told", "GaleRoof$Village", "GaleRoof", "GaleRoofModel", "java/lang/Integer", "java/lang/Math", "java/util/Arrays", "GaleRoofLaw"]
def zcl (c : Nat) : String := zCL.getD c ""
abbrev zMe : Type := MethodName × ByteArray × Nat × Option FieldType × Nat
def zM0 : List zMe := [
  (⟨"GaleRoof$Fate", "<init>", "(LGaleRoof$Gale;LGaleRoof$Scene;)V"⟩, prog_2_method_1_code, 3, none, 0),
  (⟨"GaleRoof$Fate", "nightTill", "(I)I"⟩, prog_2_method_2_code, 5, (some .int), 0),
  (⟨"GaleRoof$Fate", "goneBehind", "(II)I"⟩, prog_2_method_3_code, 5, (some .int), 0),
  (⟨"GaleRoof$Fate", "firstBadYear", "(I)I"⟩, prog_2_method_4_code, 3, (some .int), 0),
  (⟨"GaleRoof$Fate", "lostIn", "(II)I"⟩, prog_2_method_5_code, 5, (some .int), 0),
  (⟨"GaleRoof$Fate", "lostTo", "(II)I"⟩, prog_2_method_6_code, 3, (some .int), 0),
  (⟨"GaleRoof$Fate", "lot", "(III)I"⟩, prog_2_method_7_code, 4, (some .int), 0),
  (⟨"GaleRoof$Fate", "mixed", "(II)I"⟩, prog_2_method_8_code, 3, (some .int), 0),
  (⟨"GaleRoof$Gale", "<init>", "(LGaleRoof$Machine;LGaleRoof$Told;)V"⟩, prog_3_method_1_code, 3, none, 1),
  (⟨"GaleRoof$Gale", "run", "(LGaleRoof$Roof;IIZ)V"⟩, prog_3_method_2_code, 8, none, 1),
  (⟨"GaleRoof$Gale", "firstOf", "(LGaleRoof$Roof;II)I"⟩, prog_3_method_3_code, 5, (some .int), 1),
  (⟨"GaleRoof$Gale", "meet", "(LGaleRoof$Roof;II)V"⟩, prog_3_method_4_code, 6, none, 1),
  (⟨"GaleRoof$Gale", "feelDraught", "()V"⟩, prog_3_method_5_code, 3, none, 1),
  (⟨"GaleRoof$Gale", "carryOff", "(I)V"⟩, prog_3_method_6_code, 3, none, 1),
  (⟨"GaleRoof$Gale", "leaveHole", "(I)V"⟩, prog_3_method_7_code, 4, none, 1),
  (⟨"GaleRoof$Gale", "liftOf", "(LGaleRoof$Roof;I)I"⟩, prog_3_method_8_code, 9, (some .int), 1),
  (⟨"GaleRoof$Gale", "look", "(LGaleRoof$Roof;I)V"⟩, prog_3_method_9_code, 4, none, 1),
  (⟨"GaleRoof$Gale", "holdOf", "(LGaleRoof$Roof;I)I"⟩, prog_3_method_10_code, 6, (some .int), 1),
  (⟨"GaleRoof$Gale", "landingCell", "(III)I"⟩, prog_3_method_11_code, 8, (some .int), 1),
  (⟨"GaleRoof$Gale", "fullestCell", "()I"⟩, prog_3_method_12_code, 6, (some .int), 1),
  (⟨"GaleRoof$Gale", "landedOn", "(I)I"⟩, prog_3_method_13_code, 4, (some .int), 1),
  (⟨"GaleRoof$Machine", "<init>", "()V"⟩, prog_4_method_1_code, 1, none, 2),
  (⟨"GaleRoof$Machine", "worth", "([IIII)I"⟩, prog_4_method_2_code, 11, (some .int), 2),
  (⟨"GaleRoof$Machine", "joined", "(III)I"⟩, prog_4_method_3_code, 3, (some .int), 2),
  (⟨"GaleRoof$Machine", "someHolds", "(LGaleRoof$Told;I)I"⟩, prog_4_method_4_code, 5, (some .int), 2),
  (⟨"GaleRoof$Machine", "warns", "(LGaleRoof$Told;III)I"⟩, prog_4_method_5_code, 5, (some .int), 2),
  (⟨"GaleRoof$Planner", "<init>", "(LGaleRoof$Gale;LGaleRoof$Scene;)V"⟩, prog_5_method_1_code, 3, none, 3),
  (⟨"GaleRoof$Planner", "forget", "()V"⟩, prog_5_method_2_code, 1, none, 3),
  (⟨"GaleRoof$Planner", "harmOf", "(LGaleRoof$Roof;I)I"⟩, prog_5_method_3_code, 5, (some .int), 3),
  (⟨"GaleRoof$Planner", "fallenFrom", "(LGaleRoof$Roof;II)I"⟩, prog_5_method_4_code, 4, (some .int), 3),
  (⟨"GaleRoof$Planner", "bestDoors", "(III)I"⟩, prog_5_method_5_code, 9, (some .int), 3),
  (⟨"GaleRoof$Planner", "helpOf", "(III)I"⟩, prog_5_method_6_code, 5, (some .int), 3)]
def zM1 : List zMe := [
  (⟨"GaleRoof$Planner", "chooseNails", "(I)V"⟩, prog_5_method_7_code, 3, none, 3),
  (⟨"GaleRoof$Planner", "tryNail", "(I)V"⟩, prog_5_method_8_code, 3, none, 3),
  (⟨"GaleRoof$Planner", "tryPairs", "(I)V"⟩, prog_5_method_9_code, 4, none, 3),
  (⟨"GaleRoof$Planner", "chooseSteps", "(I)V"⟩, prog_5_method_10_code, 4, none, 3),
  (⟨"GaleRoof$Planner", "bestStep", "()I"⟩, prog_5_method_11_code, 4, (some .int), 3),
  (⟨"GaleRoof$Planner", "thirds", "()I"⟩, prog_5_method_12_code, 2, (some .int), 3),
  (⟨"GaleRoof$Planner", "mossless", "()I"⟩, prog_5_method_13_code, 1, (some .int), 3),
  (⟨"GaleRoof$Planner", "felted", "()I"⟩, prog_5_method_14_code, 2, (some .int), 3),
  (⟨"GaleRoof$Planner", "neglected", "(II)I"⟩, prog_5_method_15_code, 4, (some .int), 3),
  (⟨"GaleRoof$Reader", "<init>", "(LGaleRoof$Tape;LGaleRoof$Told;)V"⟩, prog_6_method_1_code, 3, none, 4),
  (⟨"GaleRoof$Reader", "parse", "(LGaleRoof$Told;)I"⟩, prog_6_method_2_code, 4, (some .int), 4),
  (⟨"GaleRoof$Reader", "parseTell", "()Z"⟩, prog_6_method_3_code, 2, (some .boolean), 4),
  (⟨"GaleRoof$Reader", "parseNumber", "(III)Z"⟩, prog_6_method_4_code, 5, (some .boolean), 4),
  (⟨"GaleRoof$Reader", "parseInt", "(II)I"⟩, prog_6_method_5_code, 4, (some .int), 4),
  (⟨"GaleRoof$Reader", "parseRule", "(I)Z"⟩, prog_6_method_6_code, 4, (some .boolean), 4),
  (⟨"GaleRoof$Reader", "parseLaw", "(I)Z"⟩, prog_6_method_7_code, 3, (some .boolean), 4),
  (⟨"GaleRoof$Reader", "parseDoor", "()Z"⟩, prog_6_method_8_code, 2, (some .boolean), 4),
  (⟨"GaleRoof$Reader", "parseName", "(I)Z"⟩, prog_6_method_9_code, 5, (some .boolean), 4),
  (⟨"GaleRoof$Reader", "parseCond", "()Z"⟩, prog_6_method_10_code, 4, (some .boolean), 4),
  (⟨"GaleRoof$Reader", "parseLit", "()Z"⟩, prog_6_method_11_code, 3, (some .boolean), 4),
  (⟨"GaleRoof$Reader", "parseSum", "(I)Z"⟩, prog_6_method_12_code, 4, (some .boolean), 4),
  (⟨"GaleRoof$Reader", "parsePart", "(I)Z"⟩, prog_6_method_13_code, 4, (some .boolean), 4),
  (⟨"GaleRoof$Reader", "parseUnit", "(I)Z"⟩, prog_6_method_14_code, 3, (some .boolean), 4),
  (⟨"GaleRoof$Reader", "expect", "(I)Z"⟩, prog_6_method_15_code, 2, (some .boolean), 4),
  (⟨"GaleRoof$Reader", "pass", "()Z"⟩, prog_6_method_16_code, 1, (some .boolean), 4),
  (⟨"GaleRoof$Reader", "refuse", "(I)Z"⟩, prog_6_method_17_code, 2, (some .boolean), 4),
  (⟨"GaleRoof$Reader", "noteLate", "(I)V"⟩, prog_6_method_18_code, 2, none, 4),
  (⟨"GaleRoof$Roof", "<init>", "()V"⟩, prog_7_method_1_code, 1, none, 5),
  (⟨"GaleRoof$Roof", "layAsTold", "(LGaleRoof$Told;LGaleRoof$Machine;)V"⟩, prog_7_method_2_code, 4, none, 5),
  (⟨"GaleRoof$Roof", "copyFrom", "(LGaleRoof$Roof;)V"⟩, prog_7_method_3_code, 3, none, 5),
  (⟨"GaleRoof$Roof", "goneCount", "()I"⟩, prog_7_method_4_code, 3, (some .int), 5),
  (⟨"GaleRoof$Roof", "lose", "(LGaleRoof$Gale;)V"⟩, prog_7_method_5_code, 3, none, 5)]
def zM2 : List zMe := [
  (⟨"GaleRoof$Roof", "canBeNailed", "(I)Z"⟩, prog_7_method_6_code, 2, (some .boolean), 5),
  (⟨"GaleRoof$Roof", "nailAnew", "(I)V"⟩, prog_7_method_7_code, 2, none, 5),
  (⟨"GaleRoof$Roof", "unnail", "(II)V"⟩, prog_7_method_8_code, 3, none, 5),
  (⟨"GaleRoof$Scene", "<init>", "()V"⟩, prog_8_method_1_code, 1, none, 6),
  (⟨"GaleRoof$Scene", "startAnew", "(LGaleRoof$Told;LGaleRoof$Machine;)V"⟩, prog_8_method_2_code, 3, none, 6),
  (⟨"GaleRoof$Scene", "copyFrom", "(LGaleRoof$Scene;)V"⟩, prog_8_method_3_code, 2, none, 6),
  (⟨"GaleRoof$Scene", "strike", "(II)V"⟩, prog_8_method_4_code, 4, none, 6),
  (⟨"GaleRoof$Scene", "lyingInAll", "()I"⟩, prog_8_method_5_code, 3, (some .int), 6),
  (⟨"GaleRoof$Tape", "<init>", "()V"⟩, prog_9_method_1_code, 4, none, 7),
  (⟨"GaleRoof$Tape", "put", "(I)V"⟩, prog_9_method_2_code, 3, none, 7),
  (⟨"GaleRoof$Tape", "scan", "()V"⟩, prog_9_method_3_code, 2, none, 7),
  (⟨"GaleRoof$Tape", "skipBlanks", "()V"⟩, prog_9_method_4_code, 1, none, 7),
  (⟨"GaleRoof$Tape", "nextKind", "()I"⟩, prog_9_method_5_code, 2, (some .int), 7),
  (⟨"GaleRoof$Tape", "wordKind", "()I"⟩, prog_9_method_6_code, 3, (some .int), 7),
  (⟨"GaleRoof$Tape", "intKind", "()I"⟩, prog_9_method_7_code, 2, (some .int), 7),
  (⟨"GaleRoof$Tape", "signKind", "(I)I"⟩, prog_9_method_8_code, 3, (some .int), 7),
  (⟨"GaleRoof$Tape", "withEqual", "(ZII)I"⟩, prog_9_method_9_code, 4, (some .int), 7),
  (⟨"GaleRoof$Tape", "withLetter", "(JI)J"⟩, prog_9_method_10_code, 3, (some .long), 7),
  (⟨"GaleRoof$Tape", "isBlank", "(I)Z"⟩, prog_9_method_11_code, 1, (some .boolean), 7),
  (⟨"GaleRoof$Tape", "isLetter", "(I)Z"⟩, prog_9_method_12_code, 1, (some .boolean), 7),
  (⟨"GaleRoof$Tape", "isDigit", "(I)Z"⟩, prog_9_method_13_code, 1, (some .boolean), 7),
  (⟨"GaleRoof$Teller", "<init>", "(LGaleRoof$Gale;LGaleRoof$Scene;)V"⟩, prog_10_method_1_code, 3, none, 8),
  (⟨"GaleRoof$Teller", "findGust", "()V"⟩, prog_10_method_2_code, 5, none, 8),
  (⟨"GaleRoof$Teller", "apartByLanded", "()I"⟩, prog_10_method_3_code, 4, (some .int), 8),
  (⟨"GaleRoof$Told", "<init>", "()V"⟩, prog_11_method_1_code, 1, none, 9),
  (⟨"GaleRoof$Told", "tellNothing", "()V"⟩, prog_11_method_2_code, 1, none, 9),
  (⟨"GaleRoof$Told", "emit", "(II)V"⟩, prog_11_method_3_code, 3, none, 9),
  (⟨"GaleRoof$Told", "layOut", "()V"⟩, prog_11_method_4_code, 7, none, 9),
  (⟨"GaleRoof$Village", "<init>", "()V"⟩, prog_12_method_1_code, 1, none, 10),
  (⟨"GaleRoof$Village", "addHouse", "(IIII)I"⟩, prog_12_method_2_code, 5, (some .int), 10),
  (⟨"GaleRoof$Village", "addVoid", "(I)I"⟩, prog_12_method_3_code, 2, (some .int), 10),
  (⟨"GaleRoof$Village", "know", "(I)V"⟩, prog_12_method_4_code, 3, none, 10)]
def zM3 : List zMe := [
  (⟨"GaleRoof$Village", "tally", "(IILGaleRoof$Told;LGaleRoof$Machine;)V"⟩, prog_12_method_5_code, 8, none, 10),
  (⟨"GaleRoof$Village", "waysToDoAsWell", "()J"⟩, prog_12_method_6_code, 4, (some .long), 10),
  (⟨"GaleRoof$Village", "choose", "(II)J"⟩, prog_12_method_7_code, 5, (some .long), 10),
  (⟨"GaleRoof$Village", "drawLine", "(II)V"⟩, prog_12_method_8_code, 5, none, 10),
  (⟨"GaleRoof$Village", "rightBy", "(III)I"⟩, prog_12_method_9_code, 6, (some .int), 10),
  (⟨"GaleRoof", "<init>", "()V"⟩, prog_1_method_1_code, 8, none, 11),
  (⟨"GaleRoof", "feed", "(IIIII)I"⟩, prog_1_method_2_code, 6, (some .int), 11),
  (⟨"GaleRoof", "back", "(I)I"⟩, prog_1_method_3_code, 2, (some .int), 11),
  (⟨"GaleRoof", "read", "()I"⟩, prog_1_method_4_code, 3, (some .int), 11),
  (⟨"GaleRoof", "place", "()I"⟩, prog_1_method_5_code, 1, (some .int), 11),
  (⟨"GaleRoof", "tile", "(II)I"⟩, prog_1_method_6_code, 3, (some .int), 11),
  (⟨"GaleRoof", "set", "(III)Z"⟩, prog_1_method_7_code, 5, (some .boolean), 11),
  (⟨"GaleRoof", "there", "(IZ)Z"⟩, prog_1_method_8_code, 4, (some .boolean), 11),
  (⟨"GaleRoof", "open", "(IZ)Z"⟩, prog_1_method_9_code, 4, (some .boolean), 11),
  (⟨"GaleRoof", "felt", "(Z)Z"⟩, prog_1_method_10_code, 3, (some .boolean), 11),
  (⟨"GaleRoof", "door", "(II)I"⟩, prog_1_method_11_code, 3, (some .int), 11),
  (⟨"GaleRoof", "inlet", "(II)I"⟩, prog_1_method_12_code, 3, (some .int), 11),
  (⟨"GaleRoof", "lift", "(IIII)I"⟩, prog_1_method_13_code, 6, (some .int), 11),
  (⟨"GaleRoof", "goes", "(IIZ)I"⟩, prog_1_method_14_code, 5, (some .int), 11),
  (⟨"GaleRoof", "first", "(IZ)I"⟩, prog_1_method_15_code, 5, (some .int), 11),
  (⟨"GaleRoof", "fall", "(III)I"⟩, prog_1_method_16_code, 4, (some .int), 11),
  (⟨"GaleRoof", "fallen", "(III)I"⟩, prog_1_method_17_code, 4, (some .int), 11),
  (⟨"GaleRoof", "round", "(III)I"⟩, prog_1_method_18_code, 4, (some .int), 11),
  (⟨"GaleRoof", "lands", "(III)I"⟩, prog_1_method_19_code, 4, (some .int), 11),
  (⟨"GaleRoof", "blow", "(II)I"⟩, prog_1_method_20_code, 5, (some .int), 11),
  (⟨"GaleRoof", "yard", "(I)I"⟩, prog_1_method_21_code, 3, (some .int), 11),
  (⟨"GaleRoof", "sweep", "()I"⟩, prog_1_method_22_code, 2, (some .int), 11),
  (⟨"GaleRoof", "car", "(I)I"⟩, prog_1_method_23_code, 2, (some .int), 11),
  (⟨"GaleRoof", "hits", "(I)I"⟩, prog_1_method_24_code, 2, (some .int), 11),
  (⟨"GaleRoof", "worst", "(II)I"⟩, prog_1_method_25_code, 3, (some .int), 11),
  (⟨"GaleRoof", "gust", "(III)I"⟩, prog_1_method_26_code, 4, (some .int), 11),
  (⟨"GaleRoof", "calm", "()I"⟩, prog_1_method_27_code, 2, (some .int), 11)]
def zM4 : List zMe := [
  (⟨"GaleRoof", "harm", "()I"⟩, prog_1_method_28_code, 1, (some .int), 11),
  (⟨"GaleRoof", "doors", "(II)I"⟩, prog_1_method_29_code, 3, (some .int), 11),
  (⟨"GaleRoof", "helps", "(III)I"⟩, prog_1_method_30_code, 4, (some .int), 11),
  (⟨"GaleRoof", "ever", "(II)I"⟩, prog_1_method_31_code, 4, (some .int), 11),
  (⟨"GaleRoof", "nailing", "(I)I"⟩, prog_1_method_32_code, 2, (some .int), 11),
  (⟨"GaleRoof", "nailingAt", "(II)I"⟩, prog_1_method_33_code, 3, (some .int), 11),
  (⟨"GaleRoof", "onebyone", "(I)I"⟩, prog_1_method_34_code, 2, (some .int), 11),
  (⟨"GaleRoof", "onebyoneAt", "(II)I"⟩, prog_1_method_35_code, 3, (some .int), 11),
  (⟨"GaleRoof", "without", "(I)I"⟩, prog_1_method_36_code, 2, (some .int), 11),
  (⟨"GaleRoof", "neglect", "(II)I"⟩, prog_1_method_37_code, 3, (some .int), 11),
  (⟨"GaleRoof", "night", "(I)I"⟩, prog_1_method_38_code, 2, (some .int), 11),
  (⟨"GaleRoof", "years", "(II)I"⟩, prog_1_method_39_code, 3, (some .int), 11),
  (⟨"GaleRoof", "lasts", "(I)I"⟩, prog_1_method_40_code, 2, (some .int), 11),
  (⟨"GaleRoof", "odds", "(IIII)I"⟩, prog_1_method_41_code, 7, (some .int), 11),
  (⟨"GaleRoof", "yardTells", "(I)I"⟩, prog_1_method_42_code, 2, (some .int), 11),
  (⟨"GaleRoof", "house", "(IIII)I"⟩, prog_1_method_43_code, 5, (some .int), 11),
  (⟨"GaleRoof", "annul", "(I)I"⟩, prog_1_method_44_code, 2, (some .int), 11),
  (⟨"GaleRoof", "warned", "(III)I"⟩, prog_1_method_45_code, 4, (some .int), 11),
  (⟨"GaleRoof", "village", "(III)I"⟩, prog_1_method_46_code, 4, (some .int), 11),
  (⟨"GaleRoof", "villageWays", "(IIZ)J"⟩, prog_1_method_47_code, 4, (some .long), 11),
  (⟨"GaleRoof", "line", "(IIZ)I"⟩, prog_1_method_48_code, 4, (some .int), 11),
  (⟨"GaleRoof", "hold", "(I)Z"⟩, prog_1_method_49_code, 2, (some .boolean), 11),
  (⟨"GaleRoof", "restore", "(I)Z"⟩, prog_1_method_50_code, 2, (some .boolean), 11),
  (⟨"GaleRoof", "count", "(I)I"⟩, prog_1_method_51_code, 2, (some .int), 11),
  (⟨"GaleRoof", "isTile", "(I)Z"⟩, prog_1_method_52_code, 2, (some .boolean), 11),
  (⟨"GaleRoof", "isDoor", "(I)Z"⟩, prog_1_method_53_code, 2, (some .boolean), 11),
  (⟨"GaleRoof", "isGust", "(I)Z"⟩, prog_1_method_54_code, 1, (some .boolean), 11),
  (⟨"GaleRoof", "isWay", "(I)Z"⟩, prog_1_method_55_code, 1, (some .boolean), 11),
  (⟨"GaleRoof", "isHouse", "(III)Z"⟩, prog_1_method_56_code, 3, (some .boolean), 11),
  (⟨"GaleRoof", "isKnowledge", "(II)Z"⟩, prog_1_method_57_code, 3, (some .boolean), 11),
  (⟨"GaleRoof", "cellIndex", "(I)I"⟩, prog_1_method_58_code, 3, (some .int), 11),
  (⟨"GaleRoof", "layNewRoof", "()V"⟩, prog_1_method_59_code, 2, none, 11)]
def zM5 : List zMe := [
  (⟨"GaleRoof", "forgetPlans", "()V"⟩, prog_1_method_60_code, 1, none, 11),
  (⟨"GaleRoof", "wouldGo", "(IIIZ)Z"⟩, prog_1_method_61_code, 5, (some .boolean), 11),
  (⟨"GaleRoof", "heldSlots", "()I"⟩, prog_1_method_62_code, 3, (some .int), 11),
  (⟨"GaleRoofModel", "<init>", "()V"⟩, prog_14_method_2_code, 1, none, 12),
  (⟨"GaleRoofModel", "feed", "(IIIII)I"⟩, prog_14_method_3_code, 6, (some .int), 12),
  (⟨"GaleRoofModel", "put", "(I)V"⟩, prog_14_method_4_code, 3, none, 12),
  (⟨"GaleRoofModel", "back", "(I)I"⟩, prog_14_method_5_code, 2, (some .int), 12),
  (⟨"GaleRoofModel", "byteAt", "(I)I"⟩, prog_14_method_6_code, 2, (some .int), 12),
  (⟨"GaleRoofModel", "isDigit", "(I)Z"⟩, prog_14_method_7_code, 1, (some .boolean), 12),
  (⟨"GaleRoofModel", "isLetter", "(I)Z"⟩, prog_14_method_8_code, 1, (some .boolean), 12),
  (⟨"GaleRoofModel", "appends", "(JI)J"⟩, prog_14_method_9_code, 3, (some .long), 12),
  (⟨"GaleRoofModel", "word", "(IIIIIII)J"⟩, prog_14_method_10_code, 7, (some .long), 12),
  (⟨"GaleRoofModel", "token", "(IIIJ)V"⟩, prog_14_method_11_code, 6, none, 12),
  (⟨"GaleRoofModel", "cut", "()V"⟩, prog_14_method_12_code, 8, none, 12),
  (⟨"GaleRoofModel", "sign", "(III)I"⟩, prog_14_method_13_code, 6, (some .int), 12),
  (⟨"GaleRoofModel", "is", "(I)Z"⟩, prog_14_method_14_code, 2, (some .boolean), 12),
  (⟨"GaleRoofModel", "fail", "(I)V"⟩, prog_14_method_15_code, 2, none, 12),
  (⟨"GaleRoofModel", "wrong", "(II)V"⟩, prog_14_method_16_code, 4, none, 12),
  (⟨"GaleRoofModel", "goesOn", "()V"⟩, prog_14_method_17_code, 1, none, 12),
  (⟨"GaleRoofModel", "must", "(I)V"⟩, prog_14_method_18_code, 2, none, 12),
  (⟨"GaleRoofModel", "clears", "(I)V"⟩, prog_14_method_19_code, 3, none, 12),
  (⟨"GaleRoofModel", "read", "()I"⟩, prog_14_method_20_code, 2, (some .int), 12),
  (⟨"GaleRoofModel", "place", "()I"⟩, prog_14_method_21_code, 1, (some .int), 12),
  (⟨"GaleRoofModel", "tell", "()V"⟩, prog_14_method_22_code, 3, none, 12),
  (⟨"GaleRoofModel", "bounded", "(II)I"⟩, prog_14_method_23_code, 4, (some .int), 12),
  (⟨"GaleRoofModel", "tellDoor", "()V"⟩, prog_14_method_24_code, 4, none, 12),
  (⟨"GaleRoofModel", "tellRule", "(I)V"⟩, prog_14_method_25_code, 5, none, 12),
  (⟨"GaleRoofModel", "literal", "(Z)V"⟩, prog_14_method_26_code, 6, none, 12),
  (⟨"GaleRoofModel", "emit", "(II)V"⟩, prog_14_method_27_code, 3, none, 12),
  (⟨"GaleRoofModel", "comesOut", "(Z)V"⟩, prog_14_method_28_code, 3, none, 12),
  (⟨"GaleRoofModel", "expression", "()V"⟩, prog_14_method_29_code, 3, none, 12),
  (⟨"GaleRoofModel", "unit", "()V"⟩, prog_14_method_30_code, 1, none, 12)]
def zM6 : List zMe := [
  (⟨"GaleRoofModel", "termOf", "(II)I"⟩, prog_14_method_31_code, 8, (some .int), 12),
  (⟨"GaleRoofModel", "isTrue", "(I)Z"⟩, prog_14_method_32_code, 6, (some .boolean), 12),
  (⟨"GaleRoofModel", "holdsRule", "(I)Z"⟩, prog_14_method_33_code, 4, (some .boolean), 12),
  (⟨"GaleRoofModel", "in", "(III)Z"⟩, prog_14_method_34_code, 3, (some .boolean), 12),
  (⟨"GaleRoofModel", "held", "(II)I"⟩, prog_14_method_35_code, 2, (some .int), 12),
  (⟨"GaleRoofModel", "tiles", "()I"⟩, prog_14_method_36_code, 1, (some .int), 12),
  (⟨"GaleRoofModel", "rowOf", "(I)I"⟩, prog_14_method_37_code, 2, (some .int), 12),
  (⟨"GaleRoofModel", "colOf", "(I)I"⟩, prog_14_method_38_code, 2, (some .int), 12),
  (⟨"GaleRoofModel", "edge", "(I)I"⟩, prog_14_method_39_code, 4, (some .int), 12),
  (⟨"GaleRoofModel", "sees", "(I)V"⟩, prog_14_method_40_code, 3, none, 12),
  (⟨"GaleRoofModel", "holdsSome", "(I)Z"⟩, prog_14_method_41_code, 3, (some .boolean), 12),
  (⟨"GaleRoofModel", "begins", "()V"⟩, prog_14_method_42_code, 2, none, 12),
  (⟨"GaleRoofModel", "isTile", "(I)Z"⟩, prog_14_method_43_code, 2, (some .boolean), 12),
  (⟨"GaleRoofModel", "isDoor", "(I)Z"⟩, prog_14_method_44_code, 2, (some .boolean), 12),
  (⟨"GaleRoofModel", "isGust", "(II)Z"⟩, prog_14_method_45_code, 2, (some .boolean), 12),
  (⟨"GaleRoofModel", "tile", "(II)I"⟩, prog_14_method_46_code, 3, (some .int), 12),
  (⟨"GaleRoofModel", "set", "(III)Z"⟩, prog_14_method_47_code, 4, (some .boolean), 12),
  (⟨"GaleRoofModel", "there", "(IZ)Z"⟩, prog_14_method_48_code, 3, (some .boolean), 12),
  (⟨"GaleRoofModel", "open", "(IZ)Z"⟩, prog_14_method_49_code, 3, (some .boolean), 12),
  (⟨"GaleRoofModel", "felt", "(Z)Z"⟩, prog_14_method_50_code, 3, (some .boolean), 12),
  (⟨"GaleRoofModel", "door", "(II)I"⟩, prog_14_method_51_code, 3, (some .int), 12),
  (⟨"GaleRoofModel", "asItIs", "()V"⟩, prog_14_method_52_code, 2, none, 12),
  (⟨"GaleRoofModel", "holes", "()I"⟩, prog_14_method_53_code, 3, (some .int), 12),
  (⟨"GaleRoofModel", "inletOf", "(IZ)I"⟩, prog_14_method_54_code, 5, (some .int), 12),
  (⟨"GaleRoofModel", "inlet", "(II)I"⟩, prog_14_method_55_code, 3, (some .int), 12),
  (⟨"GaleRoofModel", "isLost", "(II)Z"⟩, prog_14_method_56_code, 3, (some .boolean), 12),
  (⟨"GaleRoofModel", "looks", "(III)V"⟩, prog_14_method_57_code, 6, none, 12),
  (⟨"GaleRoofModel", "says", "(II)I"⟩, prog_14_method_58_code, 4, (some .int), 12),
  (⟨"GaleRoofModel", "suck", "(I)I"⟩, prog_14_method_59_code, 2, (some .int), 12),
  (⟨"GaleRoofModel", "press", "(I)I"⟩, prog_14_method_60_code, 2, (some .int), 12),
  (⟨"GaleRoofModel", "holding", "(I)I"⟩, prog_14_method_61_code, 3, (some .int), 12),
  (⟨"GaleRoofModel", "liftOf", "(III)I"⟩, prog_14_method_62_code, 4, (some .int), 12)]
def zM7 : List zMe := [
  (⟨"GaleRoofModel", "lift", "(IIII)I"⟩, prog_14_method_63_code, 5, (some .int), 12),
  (⟨"GaleRoofModel", "landing", "(III)I"⟩, prog_14_method_64_code, 6, (some .int), 12),
  (⟨"GaleRoofModel", "falls", "(II)I"⟩, prog_14_method_65_code, 6, (some .int), 12),
  (⟨"GaleRoofModel", "fallsNow", "(II)I"⟩, prog_14_method_66_code, 3, (some .int), 12),
  (⟨"GaleRoofModel", "goesAt", "(IIIZ)Z"⟩, prog_14_method_67_code, 6, (some .boolean), 12),
  (⟨"GaleRoofModel", "goes", "(IIZ)I"⟩, prog_14_method_68_code, 5, (some .int), 12),
  (⟨"GaleRoofModel", "first", "(IZ)I"⟩, prog_14_method_69_code, 5, (some .int), 12),
  (⟨"GaleRoofModel", "fall", "(III)I"⟩, prog_14_method_70_code, 5, (some .int), 12),
  (⟨"GaleRoofModel", "inOrder", "(I)I"⟩, prog_14_method_71_code, 5, (some .int), 12),
  (⟨"GaleRoofModel", "fallen", "(III)I"⟩, prog_14_method_72_code, 5, (some .int), 12),
  (⟨"GaleRoofModel", "round", "(III)I"⟩, prog_14_method_73_code, 5, (some .int), 12),
  (⟨"GaleRoofModel", "lands", "(III)I"⟩, prog_14_method_74_code, 5, (some .int), 12),
  (⟨"GaleRoofModel", "yardOf", "(I)I"⟩, prog_14_method_75_code, 1, (some .int), 12),
  (⟨"GaleRoofModel", "isCell", "(I)Z"⟩, prog_14_method_76_code, 1, (some .boolean), 12),
  (⟨"GaleRoofModel", "blow", "(II)I"⟩, prog_14_method_77_code, 6, (some .int), 12),
  (⟨"GaleRoofModel", "yard", "(I)I"⟩, prog_14_method_78_code, 2, (some .int), 12),
  (⟨"GaleRoofModel", "sweep", "()I"⟩, prog_14_method_79_code, 3, (some .int), 12),
  (⟨"GaleRoofModel", "car", "(I)I"⟩, prog_14_method_80_code, 2, (some .int), 12),
  (⟨"GaleRoofModel", "hits", "(I)I"⟩, prog_14_method_81_code, 2, (some .int), 12),
  (⟨"GaleRoofModel", "lies", "()V"⟩, prog_14_method_82_code, 2, none, 12),
  (⟨"GaleRoofModel", "worst", "(II)I"⟩, prog_14_method_83_code, 5, (some .int), 12),
  (⟨"GaleRoofModel", "gust", "(III)I"⟩, prog_14_method_84_code, 4, (some .int), 12),
  (⟨"GaleRoofModel", "calm", "()I"⟩, prog_14_method_85_code, 2, (some .int), 12),
  (⟨"GaleRoofModel", "harmNow", "()I"⟩, prog_14_method_86_code, 3, (some .int), 12),
  (⟨"GaleRoofModel", "harm", "()I"⟩, prog_14_method_87_code, 1, (some .int), 12),
  (⟨"GaleRoofModel", "openDoors", "()I"⟩, prog_14_method_88_code, 3, (some .int), 12),
  (⟨"GaleRoofModel", "opens", "(I)V"⟩, prog_14_method_89_code, 3, none, 12),
  (⟨"GaleRoofModel", "bits", "(I)I"⟩, prog_14_method_90_code, 3, (some .int), 12),
  (⟨"GaleRoofModel", "doors", "(II)I"⟩, prog_14_method_91_code, 8, (some .int), 12),
  (⟨"GaleRoofModel", "helpsBy", "(III)I"⟩, prog_14_method_92_code, 5, (some .int), 12),
  (⟨"GaleRoofModel", "helps", "(III)I"⟩, prog_14_method_93_code, 4, (some .int), 12),
  (⟨"GaleRoofModel", "ever", "(II)I"⟩, prog_14_method_94_code, 4, (some .int), 12)]
def zM8 : List zMe := [
  (⟨"GaleRoofModel", "canNail", "(I)Z"⟩, prog_14_method_95_code, 2, (some .boolean), 12),
  (⟨"GaleRoofModel", "nails", "(I)V"⟩, prog_14_method_96_code, 2, none, 12),
  (⟨"GaleRoofModel", "unnails", "(I)V"⟩, prog_14_method_97_code, 2, none, 12),
  (⟨"GaleRoofModel", "nailingOf", "(I)I"⟩, prog_14_method_98_code, 6, (some .int), 12),
  (⟨"GaleRoofModel", "nailing", "(I)I"⟩, prog_14_method_99_code, 2, (some .int), 12),
  (⟨"GaleRoofModel", "nailingAt", "(II)I"⟩, prog_14_method_100_code, 4, (some .int), 12),
  (⟨"GaleRoofModel", "oneByOne", "(I)I"⟩, prog_14_method_101_code, 8, (some .int), 12),
  (⟨"GaleRoofModel", "onebyone", "(I)I"⟩, prog_14_method_102_code, 2, (some .int), 12),
  (⟨"GaleRoofModel", "onebyoneAt", "(II)I"⟩, prog_14_method_103_code, 4, (some .int), 12),
  (⟨"GaleRoofModel", "thirds", "()I"⟩, prog_14_method_104_code, 3, (some .int), 12),
  (⟨"GaleRoofModel", "mossless", "()I"⟩, prog_14_method_105_code, 4, (some .int), 12),
  (⟨"GaleRoofModel", "felted", "()I"⟩, prog_14_method_106_code, 4, (some .int), 12),
  (⟨"GaleRoofModel", "without", "(I)I"⟩, prog_14_method_107_code, 2, (some .int), 12),
  (⟨"GaleRoofModel", "neglect", "(II)I"⟩, prog_14_method_108_code, 5, (some .int), 12),
  (⟨"GaleRoofModel", "night", "(I)I"⟩, prog_14_method_109_code, 4, (some .int), 12),
  (⟨"GaleRoofModel", "mixed", "(II)I"⟩, prog_14_method_110_code, 3, (some .int), 12),
  (⟨"GaleRoofModel", "lot", "(III)I"⟩, prog_14_method_111_code, 3, (some .int), 12),
  (⟨"GaleRoofModel", "yearsOf", "(II)I"⟩, prog_14_method_112_code, 6, (some .int), 12),
  (⟨"GaleRoofModel", "years", "(II)I"⟩, prog_14_method_113_code, 3, (some .int), 12),
  (⟨"GaleRoofModel", "lasts", "(I)I"⟩, prog_14_method_114_code, 3, (some .int), 12),
  (⟨"GaleRoofModel", "odds", "(IIII)I"⟩, prog_14_method_115_code, 7, (some .int), 12),
  (⟨"GaleRoofModel", "yardTells", "(I)I"⟩, prog_14_method_116_code, 10, (some .int), 12),
  (⟨"GaleRoofModel", "house", "(IIII)I"⟩, prog_14_method_117_code, 5, (some .int), 12),
  (⟨"GaleRoofModel", "annul", "(I)I"⟩, prog_14_method_118_code, 2, (some .int), 12),
  (⟨"GaleRoofModel", "isWarned", "(III)Z"⟩, prog_14_method_119_code, 5, (some .boolean), 12),
  (⟨"GaleRoofModel", "warned", "(III)I"⟩, prog_14_method_120_code, 4, (some .int), 12),
  (⟨"GaleRoofModel", "counts", "(II)Z"⟩, prog_14_method_121_code, 4, (some .boolean), 12),
  (⟨"GaleRoofModel", "isVillage", "(II)Z"⟩, prog_14_method_122_code, 3, (some .boolean), 12),
  (⟨"GaleRoofModel", "villageOf", "(III)I"⟩, prog_14_method_123_code, 8, (some .int), 12),
  (⟨"GaleRoofModel", "village", "(III)I"⟩, prog_14_method_124_code, 4, (some .int), 12),
  (⟨"GaleRoofModel", "picks", "(II)J"⟩, prog_14_method_125_code, 5, (some .long), 12),
  (⟨"GaleRoofModel", "villageWays", "(IIZ)J"⟩, prog_14_method_126_code, 10, (some .long), 12)]
def zM9 : List zMe := [
  (⟨"GaleRoofModel", "line", "(IIZ)I"⟩, prog_14_method_127_code, 9, (some .int), 12),
  (⟨"GaleRoofModel", "hold", "(I)Z"⟩, prog_14_method_128_code, 3, (some .boolean), 12),
  (⟨"GaleRoofModel", "restore", "(I)Z"⟩, prog_14_method_129_code, 3, (some .boolean), 12),
  (⟨"GaleRoofModel", "count", "(I)I"⟩, prog_14_method_130_code, 2, (some .int), 12),
  (⟨"java/lang/Integer", "bitCount", "(I)I"⟩, prog_15_method_49_code, 1, (some .int), 13),
  (⟨"java/lang/Math", "max", "(II)I"⟩, prog_16_method_65_code, 2, (some .int), 14),
  (⟨"java/lang/Math", "min", "(II)I"⟩, prog_16_method_69_code, 2, (some .int), 14),
  (⟨"java/util/Arrays", "fill", "([II)V"⟩, prog_21_method_103_code, 4, none, 15),
  (⟨"GaleRoofLaw", "law", "([I)Z"⟩, code, 4, (some .boolean), 16)]
def zMs : List (List zMe) := [zM0, zM1, zM2, zM3, zM4, zM5, zM6, zM7, zM8, zM9]
/-- method number z -/
def zMt (z : Nat) : zMe := match (zMs.getD (z / 32) [])[z % 32]? with
  | some e => e
  | none => (⟨"", "", ""⟩, code, 0, none, 0)
def zyn (z : Nat) : MethodName := (zMt z).1
def zcb (z : Nat) : ByteArray := (zMt z).2.1
def zmx (z : Nat) : Nat := (zMt z).2.2.1
def zrt (z : Nat) : Option FieldType := (zMt z).2.2.2.1
def zcz (z : Nat) : Nat := (zMt z).2.2.2.2
/-- pool entries that name a field: (index, class, slot), by the owning class -/
def zFl : List (List (Nat × Nat × Nat)) := [[(83, 1, 3), (60, 5, 0), (54, 5, 1), (26, 6, 0), (43, 6, 4), (47, 6, 5), (39, 6, 8), (18, 0, 0), (22, 0, 1), (12, 0, 2)],
  [(99, 2, 0), (107, 9, 0), (96, 9, 1), (90, 9, 2), (113, 9, 4), (116, 9, 5), (119, 9, 6), (152, 9, 10), (110, 9, 11), (129, 9, 12), (43, 9, 13), (87, 9, 14), (122, 9, 16), (9, 1, 0), (15, 1, 1), (18, 1, 2), (39, 1, 3), (56, 1, 4), (136, 1, 5), (143, 1, 6), (149, 1, 7), (31, 1, 8), (27, 1, 9), (21, 1, 10), (24, 1, 11), (63, 1, 12), (81, 1, 13), (84, 1, 14), (72, 5, 0), (93, 5, 2), (139, 5, 3)],
  [(9, 2, 0), (15, 2, 1), (28, 9, 4), (31, 9, 7), (34, 9, 8), (23, 9, 9)],
  [(60, 1, 3), (111, 5, 0), (94, 5, 1), (71, 5, 2), (135, 5, 3), (63, 6, 0), (45, 6, 4), (48, 6, 5), (57, 6, 6), (40, 6, 8), (9, 3, 0), (15, 3, 1), (84, 3, 2), (91, 3, 3), (119, 3, 4), (122, 3, 5), (25, 3, 6), (29, 3, 7), (21, 3, 8), (33, 3, 9), (37, 3, 10)],
  [(39, 7, 0), (149, 7, 1), (86, 7, 2), (83, 9, 0), (124, 9, 1), (127, 9, 2), (133, 9, 3), (112, 9, 5), (115, 9, 6), (103, 9, 7), (106, 9, 8), (94, 9, 9), (118, 9, 14), (130, 9, 15), (97, 9, 16), (50, 4, 0), (9, 4, 1), (15, 4, 2), (29, 4, 3), (33, 4, 4), (36, 4, 5), (47, 4, 6)],
  [(31, 2, 0), (56, 9, 0), (43, 9, 10), (46, 9, 11), (49, 9, 12), (16, 9, 13), (23, 9, 15), (70, 1, 0), (65, 1, 3), (11, 5, 0), (22, 5, 1), (26, 5, 2), (27, 5, 3)],
  [(12, 6, 0), (18, 6, 1), (22, 6, 2), (25, 6, 3), (28, 6, 4), (31, 6, 5), (34, 6, 6), (47, 6, 7), (51, 6, 8)],
  [(9, 7, 0), (15, 7, 1), (18, 7, 2), (45, 7, 3), (22, 7, 4), (26, 7, 5), (49, 7, 6), (55, 7, 7)],
  [(80, 1, 0), (86, 1, 2), (77, 1, 3), (43, 5, 0), (34, 6, 0), (93, 6, 1), (71, 8, 0), (74, 8, 1), (58, 8, 2), (83, 8, 3), (30, 8, 4), (22, 8, 5), (26, 8, 6), (12, 8, 7), (18, 8, 8)],
  [(9, 9, 0), (15, 9, 1), (18, 9, 2), (21, 9, 3), (25, 9, 4), (28, 9, 5), (31, 9, 6), (34, 9, 7), (37, 9, 8), (40, 9, 9), (43, 9, 10), (46, 9, 11), (49, 9, 12), (74, 9, 13), (64, 9, 14), (68, 9, 15), (71, 9, 16)],
  [(30, 10, 0), (38, 10, 1), (41, 10, 2), (44, 10, 3), (47, 10, 4), (67, 10, 5), (60, 10, 6), (9, 10, 7), (15, 10, 8), (18, 10, 9), (21, 10, 10), (24, 10, 11), (27, 10, 12)],
  [(99, 7, 3), (155, 2, 0), (387, 9, 0), (142, 9, 1), (145, 9, 2), (390, 9, 9), (115, 9, 12), (393, 9, 13), (255, 9, 14), (193, 1, 0), (196, 1, 1), (199, 1, 2), (187, 1, 3), (190, 1, 4), (166, 1, 5), (169, 1, 6), (172, 1, 7), (405, 1, 8), (123, 5, 0), (135, 5, 2), (138, 5, 3), (119, 6, 0), (214, 6, 1), (230, 6, 2), (233, 6, 3), (242, 6, 4), (245, 6, 5), (248, 6, 6), (227, 6, 7), (239, 6, 8), (384, 6, 9), (110, 4, 0), (274, 3, 0), (286, 3, 1), (271, 3, 2), (268, 3, 3), (283, 3, 4), (280, 3, 5), (314, 8, 0), (317, 8, 1), (320, 8, 2), (323, 8, 3), (413, 8, 4), (399, 10, 0), (349, 10, 1), (352, 10, 2), (355, 10, 3), (358, 10, 4), (377, 10, 5), (374, 10, 6), (24, 11, 0), (35, 11, 1), (39, 11, 2), (43, 11, 3), (47, 11, 4), (51, 11, 5), (60, 11, 6), (67, 11, 7), (74, 11, 8), (81, 11, 9), (85, 11, 10), (89, 11, 11), (92, 11, 12)],
  [(13, 12, 1), (256, 12, 2), (17, 12, 3), (262, 12, 4), (20, 12, 5), (24, 12, 6), (27, 12, 7), (30, 12, 8), (34, 12, 9), (271, 12, 10), (296, 12, 11), (320, 12, 12), (293, 12, 13), (299, 12, 14), (302, 12, 15), (305, 12, 16), (37, 12, 17), (323, 12, 18), (326, 12, 19), (329, 12, 20), (40, 12, 21), (43, 12, 22), (46, 12, 23), (49, 12, 24), (52, 12, 25), (55, 12, 26), (58, 12, 27), (61, 12, 28), (64, 12, 29), (68, 12, 30), (71, 12, 31), (74, 12, 32), (77, 12, 33), (80, 12, 34), (83, 12, 35), (332, 12, 36), (86, 12, 37), (89, 12, 38), (92, 12, 39), (95, 12, 40), (98, 12, 41), (101, 12, 42), (335, 12, 43), (104, 12, 44), (107, 12, 45), (110, 12, 46), (365, 12, 47), (113, 12, 48), (116, 12, 49), (377, 12, 50), (119, 12, 51), (122, 12, 52), (125, 12, 53), (128, 12, 54), (131, 12, 55), (134, 12, 56), (409, 12, 57), (137, 12, 58), (412, 12, 59), (140, 12, 60), (143, 12, 61), (415, 12, 62), (146, 12, 63), (149, 12, 64), (152, 12, 65), (155, 12, 66), (158, 12, 67), (161, 12, 68), (468, 12, 69), (164, 12, 70), (167, 12, 71), (511, 12, 72), (170, 12, 73), (173, 12, 74), (176, 12, 75), (179, 12, 76), (543, 12, 77), (552, 12, 78), (182, 12, 79), (185, 12, 80), (188, 12, 81), (191, 12, 82), (194, 12, 83), (197, 12, 84), (200, 12, 85), (203, 12, 86), (206, 12, 87), (209, 12, 88), (212, 12, 89), (215, 12, 90), (218, 12, 91), (221, 12, 92), (224, 12, 93), (227, 12, 94), (230, 12, 95), (233, 12, 96), (236, 12, 97), (239, 12, 98), (242, 12, 99)],
  [],
  [],
  [],
  []]
def zfr (c k : Nat) : Option (Nat × Nat) := ((zFl.getD c []).find? (fun e => e.1 == k)).map (fun e => e.2)
/-- kinds of fields: 0 int, 1 long, 2 reference, 3 boolean; 10 more: final -/
def zFk : List (List Nat) := [[12, 12, 12], [12, 12, 12, 0, 0, 0, 0, 0, 2, 12, 12, 12, 0, 0, 0], [12, 12], [12, 12, 0, 0, 0, 0, 12, 12, 12, 0, 0], [0, 12, 2, 0, 0, 0, 0], [12, 0, 0, 3], [12, 12, 12, 12, 12, 12, 12, 0, 0, 3], [12, 12, 12, 0, 12, 12, 0, 1], [0, 0, 0, 0, 3, 12, 12, 12, 12], [12, 12, 12, 12, 12, 12, 12, 12, 12, 12, 12, 12, 12, 0, 0, 0, 0], [0, 0, 0, 0, 0, 0, 0, 12, 12, 12, 12, 12, 12], [12, 12, 12, 12, 12, 12, 12, 12, 12, 12, 2, 2, 0], [0, 12, 0, 12, 0, 12, 12, 12, 12, 12, 0, 0, 0, 0, 0, 0, 0, 0, 0, 0, 0, 12, 12, 12, 12, 12, 12, 12, 12, 12, 12, 12, 12, 12, 12, 12, 0, 12, 12, 12, 12, 12, 12, 0, 12, 12, 12, 0, 12, 12, 3, 12, 12, 12, 12, 12, 12, 3, 12, 0, 12, 12, 0, 12, 12, 12, 12, 12, 12, 0, 12, 12, 0, 12, 12, 12, 12, 0, 0, 12, 12, 12, 12, 12, 12, 12, 12, 12, 12, 12, 12, 12, 12, 12, 12, 12, 12, 12, 12, 12]]
def zfk (c j : Nat) : Nat := (zFk.getD c []).getD j 9
/-- pool entries that name a method: (index, kind, method, arguments beside the receiver) -/
def zMl : List (List (Nat × Nat × Nat × Nat)) := [[(3, 5, 0, 0), (11, 3, 59, 0), (31, 0, 61, 1), (35, 0, 62, 0), (50, 0, 5, 2), (73, 0, 9, 4), (79, 0, 63, 1), (57, 0, 4, 2), (64, 1, 294, 2), (69, 1, 6, 3), (86, 1, 7, 2)],
  [(3, 5, 0, 0), (66, 1, 295, 2), (78, 0, 14, 1), (104, 0, 12, 0), (125, 0, 16, 2), (132, 0, 22, 4), (146, 0, 17, 2), (35, 0, 11, 3), (48, 0, 15, 2), (52, 0, 18, 3), (155, 1, 294, 2), (161, 1, 293, 2), (59, 0, 13, 1), (164, 0, 20, 1)],
  [(3, 5, 0, 0), (37, 0, 22, 4), (19, 1, 23, 3), (41, 1, 295, 2), (47, 0, 24, 2)],
  [(3, 5, 0, 0), (20, 3, 59, 0), (51, 0, 9, 4), (66, 0, 61, 1), (74, 0, 29, 3), (78, 1, 292, 1), (87, 0, 28, 2), (97, 0, 33, 1), (104, 0, 64, 1), (108, 0, 65, 1), (115, 0, 66, 2), (101, 0, 34, 1), (125, 0, 36, 0), (129, 1, 295, 2)],
  [(3, 5, 0, 0), (19, 0, 89, 0), (24, 0, 74, 0), (43, 0, 43, 0), (56, 0, 56, 0), (59, 0, 44, 3), (79, 0, 45, 2), (76, 0, 57, 1), (90, 0, 58, 1), (63, 0, 55, 1), (67, 0, 46, 1), (100, 0, 50, 0), (136, 0, 51, 0), (109, 0, 52, 1), (143, 0, 53, 1), (146, 0, 54, 1), (139, 0, 90, 2), (70, 0, 47, 1), (73, 0, 48, 0), (121, 0, 49, 1), (53, 0, 91, 0)],
  [(3, 5, 0, 0), (37, 1, 295, 2), (52, 0, 24, 2), (59, 6, 0, 5)],
  [(3, 5, 0, 0), (11, 3, 59, 0), (37, 0, 60, 2), (41, 1, 295, 2), (54, 0, 61, 1), (58, 6, 0, 5)],
  [(3, 5, 0, 0), (31, 7, 0, 0), (37, 8, 0, 1), (41, 1, 81, 2), (52, 0, 75, 0), (62, 1, 82, 1), (59, 0, 76, 0), (66, 1, 83, 1), (69, 0, 77, 0), (72, 1, 84, 1), (75, 0, 78, 0), (78, 0, 79, 1), (86, 0, 80, 3)],
  [(3, 5, 0, 0), (11, 3, 59, 0), (39, 0, 61, 1), (47, 1, 295, 2), (53, 0, 71, 0), (62, 0, 9, 4), (68, 0, 87, 0), (89, 4, 158, 1)],
  [(3, 5, 0, 0), (52, 0, 89, 0), (58, 1, 295, 2), (55, 0, 91, 0)],
  [(3, 5, 0, 0), (34, 0, 95, 1), (50, 0, 25, 4), (56, 1, 98, 2), (63, 0, 100, 3)],
  [(1, 5, 0, 0), (9, 2, 72, 0), (12, 3, 21, 0), (15, 2, 88, 0), (18, 2, 8, 2), (23, 3, 67, 0), (32, 2, 41, 2), (57, 2, 26, 2), (66, 2, 0, 2), (73, 2, 85, 2), (80, 3, 92, 0), (96, 0, 159, 0), (406, 0, 68, 2), (129, 0, 160, 0), (410, 0, 27, 0), (102, 0, 73, 1), (106, 0, 42, 1), (111, 0, 152, 1), (132, 0, 153, 1), (148, 1, 155, 1), (151, 0, 11, 3), (158, 1, 154, 1), (162, 0, 15, 2), (175, 0, 161, 4), (183, 0, 9, 4), (179, 0, 10, 3), (202, 0, 63, 1), (206, 1, 158, 1), (210, 0, 70, 2), (217, 0, 71, 0), (221, 1, 295, 2), (236, 0, 19, 0), (252, 0, 28, 2), (258, 0, 30, 3), (262, 0, 31, 3), (265, 0, 32, 1), (277, 0, 35, 1), (289, 0, 37, 0), (292, 0, 38, 0), (295, 0, 39, 0), (298, 0, 40, 2), (302, 0, 1, 1), (305, 0, 2, 2), (308, 0, 3, 1), (311, 0, 86, 0), (326, 1, 156, 3), (330, 0, 93, 4), (334, 0, 94, 1), (337, 0, 25, 4), (341, 0, 157, 2), (345, 0, 96, 4), (363, 0, 97, 0), (367, 1, 98, 2), (371, 0, 99, 2), (380, 0, 69, 1), (396, 0, 62, 0), (402, 0, 162, 0)],
  [(7, 5, 0, 0), (245, 1, 171, 7), (267, 1, 170, 2), (249, 0, 180, 1), (253, 0, 203, 0), (399, 0, 197, 0), (403, 0, 201, 1), (387, 0, 198, 1), (390, 0, 199, 1), (393, 0, 200, 1), (406, 0, 202, 1), (396, 0, 194, 1), (384, 0, 193, 1), (381, 0, 192, 2), (259, 0, 165, 1), (317, 0, 173, 0), (274, 0, 167, 1), (278, 0, 172, 4), (282, 1, 169, 1), (286, 1, 168, 1), (289, 0, 174, 3), (311, 0, 175, 1), (338, 0, 183, 0), (314, 0, 178, 0), (308, 0, 176, 1), (341, 0, 184, 2), (357, 0, 177, 2), (345, 0, 179, 1), (348, 0, 185, 0), (351, 0, 186, 1), (361, 0, 187, 1), (354, 0, 190, 0), (371, 0, 191, 0), (368, 0, 188, 2), (374, 0, 189, 1), (422, 0, 204, 1), (418, 1, 195, 3), (425, 0, 205, 1), (431, 0, 213, 0), (434, 0, 215, 2), (428, 0, 214, 0), (461, 1, 206, 2), (448, 0, 218, 3), (438, 0, 217, 2), (452, 0, 220, 1), (442, 0, 219, 2), (455, 0, 221, 1), (458, 0, 222, 1), (445, 1, 196, 2), (465, 0, 223, 3), (477, 0, 228, 4), (474, 0, 226, 2), (471, 0, 225, 3), (481, 0, 227, 2), (484, 0, 232, 1), (487, 1, 236, 1), (490, 1, 237, 1), (493, 0, 243, 0), (496, 0, 247, 0), (499, 0, 249, 0), (502, 0, 250, 1), (505, 1, 251, 1), (508, 0, 253, 3), (523, 0, 259, 1), (514, 0, 256, 1), (517, 0, 257, 1), (520, 0, 258, 1), (526, 0, 262, 1), (529, 0, 265, 0), (532, 0, 266, 0), (535, 0, 267, 0), (549, 0, 273, 2), (546, 1, 272, 3), (540, 1, 271, 2), (555, 0, 280, 3), (561, 0, 283, 2), (564, 0, 284, 3), (558, 0, 282, 2), (569, 1, 286, 2)],
  [],
  [],
  [],
  [(9, 2, 101, 0), (13, 0, 102, 5), (18, 0, 103, 1), (23, 0, 104, 0), (28, 0, 105, 0), (32, 0, 106, 2), (37, 0, 107, 3), (42, 0, 108, 2), (47, 0, 109, 2), (51, 0, 110, 1), (56, 0, 111, 2), (60, 0, 112, 2), (64, 0, 113, 4), (69, 0, 114, 3), (74, 0, 115, 2), (79, 0, 116, 3), (84, 0, 117, 3), (88, 0, 118, 3), (92, 0, 119, 3), (96, 0, 120, 2), (100, 0, 121, 1), (104, 0, 122, 0), (108, 0, 123, 1), (112, 0, 124, 1), (116, 0, 125, 2), (120, 0, 126, 3), (124, 0, 127, 0), (128, 0, 128, 0), (132, 0, 129, 2), (136, 0, 130, 3), (140, 0, 131, 2), (144, 0, 132, 1), (148, 0, 133, 2), (152, 0, 134, 1), (156, 0, 135, 2), (160, 0, 136, 1), (164, 0, 137, 2), (168, 0, 138, 1), (172, 0, 139, 2), (176, 0, 140, 1), (180, 0, 141, 4), (184, 0, 142, 1), (188, 0, 143, 4), (192, 0, 144, 1), (196, 0, 145, 3), (200, 0, 146, 3), (204, 0, 147, 3), (209, 0, 148, 3), (213, 0, 149, 1), (218, 0, 150, 1), (222, 0, 151, 1), (12, 2, 163, 0), (17, 0, 164, 5), (22, 0, 166, 1), (27, 0, 181, 0), (31, 0, 182, 0), (36, 0, 207, 2), (41, 0, 208, 3), (46, 0, 209, 2), (50, 0, 210, 2), (55, 0, 211, 1), (59, 0, 212, 2), (63, 0, 216, 2), (68, 0, 224, 4), (73, 0, 229, 3), (78, 0, 230, 2), (83, 0, 231, 3), (87, 0, 233, 3), (91, 0, 234, 3), (95, 0, 235, 3), (99, 0, 238, 2), (103, 0, 239, 1), (107, 0, 240, 0), (111, 0, 241, 1), (115, 0, 242, 1), (119, 0, 244, 2), (123, 0, 245, 3), (127, 0, 246, 0), (131, 0, 248, 0), (135, 0, 252, 2), (139, 0, 254, 3), (143, 0, 255, 2), (147, 0, 260, 1), (151, 0, 261, 2), (155, 0, 263, 1), (159, 0, 264, 2), (163, 0, 268, 1), (167, 0, 269, 2), (171, 0, 270, 1), (175, 0, 274, 2), (179, 0, 275, 1), (183, 0, 276, 4), (187, 0, 277, 1), (191, 0, 278, 4), (195, 0, 279, 1), (199, 0, 281, 3), (203, 0, 285, 3), (208, 0, 287, 3), (212, 0, 288, 3), (217, 0, 289, 1), (221, 0, 290, 1), (225, 0, 291, 1)]]
def zmr (c k : Nat) : Option (Nat × Nat × Nat) := ((zMl.getD c []).find? (fun e => e.1 == k)).map (fun e => e.2)
def zCi : List (List (Nat × Int)) := [[(89, 1103515245)], [], [(18, 65535)], [(70, 2147483647)], [], [], [], [], [(57, 2147483647)], [], [], [(161, -2147483648), (251, 2147483647), (297, -1000000)], [(464, -2147483648), (538, -1000000), (539, 1103515245)], [(265, 1431655765), (266, 858993459), (267, 252645135)], [], [], []]
def zCg : List (List (Nat × Int)) := [[], [], [], [], [], [], [], [(90, 32), (92, 97), (82, 10), (84, 48)], [], [], [], [(361, -1)], [(265, 27), (567, -1)], [], [], [], []]
def zci (c k : Nat) : Option Int := ((zCi.getD c []).find? (fun e => e.1 == k)).map (fun e => e.2)
def zcg (c k : Nat) : Option Int := ((zCg.getD c []).find? (fun e => e.1 == k)).map (fun e => e.2)
/-- pool entries that name a class -/
def zNw : List (List (Nat × Nat)) := [[(9, 5)], [], [], [(18, 5)], [], [], [(9, 5)], [], [(9, 5)], [], [], [(7, 7), (10, 2), (13, 9), (16, 1), (21, 6), (30, 4), (55, 3), (64, 0), (71, 8), (78, 10)], [], [], [], [], [(7, 11), (10, 12)]]
def znw (c k : Nat) : Option Nat := ((zNw.getD c []).find? (fun e => e.1 == k)).map (fun e => e.2)
