def RX0 : String := "TrustedPause$Day"
def TX0 : u_T := fun k => match k with
  | 0 => ("TrustedPause$Day", "family", "LTrustedPause$Family;", true)
  | 1 => ("TrustedPause$Day", "acts", "I", false)
  | 2 => ("TrustedPause$Day", "stuckAct", "I", false)
  | 3 => ("TrustedPause$Day", "stuckReason", "I", false)
  | 4 => ("TrustedPause$Day", "firstAct", "I", false)
  | _ => ("TrustedPause$Day", "firstKin", "I", false)
def tyX0 : Nat → FieldType := fun k => match k with
  | 0 => .object "TrustedPause$Family"
  | 1 => .int
  | 2 => .int
  | 3 => .int
  | 4 => .int
  | _ => .int
abbrev wsX00 : List Cond := u_ws RX0 TX0 6
theorem nmX0 : ∀ a, a < 6 → ∀ b, b < 6 → a ≠ b → (TX0 a).2.1 ≠ (TX0 b).2.1 := by decide +kernel
theorem tyX0_ok : ∀ k, k < 6 → parseFieldDescriptor (TX0 k).2.2.1 = some (tyX0 k) := by decide +kernel
def RX1 : String := "TrustedPause$Family"
def TX1 : u_T := fun k => match k with
  | 0 => ("TrustedPause$Family", "ages", "[I", true)
  | 1 => ("TrustedPause$Family", "breaths", "[I", true)
  | 2 => ("TrustedPause$Family", "letters", "[I", true)
  | 3 => ("TrustedPause$Family", "ties", "[I", true)
  | 4 => ("TrustedPause$Family", "living", "I", false)
  | 5 => ("TrustedPause$Family", "holder", "I", false)
  | _ => ("TrustedPause$Family", "saved", "I", false)
def tyX1 : Nat → FieldType := fun k => match k with
  | 0 => .array .int
  | 1 => .array .int
  | 2 => .array .int
  | 3 => .array .int
  | 4 => .int
  | 5 => .int
  | _ => .int
abbrev wsX10 : List Cond := u_ws RX1 TX1 7
theorem nmX1 : ∀ a, a < 7 → ∀ b, b < 7 → a ≠ b → (TX1 a).2.1 ≠ (TX1 b).2.1 := by decide +kernel
theorem tyX1_ok : ∀ k, k < 7 → parseFieldDescriptor (TX1 k).2.2.1 = some (tyX1 k) := by decide +kernel
def RX2 : String := "TrustedPause$Image"
def TX2 : u_T := fun k => match k with
  | 0 => ("TrustedPause$Image", "family", "LTrustedPause$Family;", true)
  | 1 => ("TrustedPause$Image", "tasks", "LTrustedPause$Tasks;", true)
  | 2 => ("TrustedPause$Image", "sights", "LTrustedPause$Sights;", true)
  | _ => ("TrustedPause$Image", "isKept", "Z", false)
def tyX2 : Nat → FieldType := fun k => match k with
  | 0 => .object "TrustedPause$Family"
  | 1 => .object "TrustedPause$Tasks"
  | 2 => .object "TrustedPause$Sights"
  | _ => .boolean
abbrev wsX20 : List Cond := u_ws RX2 TX2 4
theorem nmX2 : ∀ a, a < 4 → ∀ b, b < 4 → a ≠ b → (TX2 a).2.1 ≠ (TX2 b).2.1 := by decide +kernel
theorem tyX2_ok : ∀ k, k < 4 → parseFieldDescriptor (TX2 k).2.2.1 = some (tyX2 k) := by decide +kernel
def RX3 : String := "TrustedPause$Pad"
def TX3 : u_T := fun k => match k with
  | 0 => ("TrustedPause$Pad", "signs", "[I", true)
  | _ => ("TrustedPause$Pad", "count", "I", false)
def tyX3 : Nat → FieldType := fun k => match k with
  | 0 => .array .int
  | _ => .int
abbrev wsX30 : List Cond := u_ws RX3 TX3 2
theorem nmX3 : ∀ a, a < 2 → ∀ b, b < 2 → a ≠ b → (TX3 a).2.1 ≠ (TX3 b).2.1 := by decide +kernel
theorem tyX3_ok : ∀ k, k < 2 → parseFieldDescriptor (TX3 k).2.2.1 = some (tyX3 k) := by decide +kernel
def RX4 : String := "TrustedPause$Rounds"
def TX4 : u_T := fun k => match k with
  | 0 => ("TrustedPause$Rounds", "codes", "[I", true)
  | 1 => ("TrustedPause$Rounds", "tally", "[I", true)
  | 2 => ("TrustedPause$Rounds", "count", "I", false)
  | 3 => ("TrustedPause$Rounds", "question", "I", false)
  | _ => ("TrustedPause$Rounds", "leftAtMost", "I", false)
def tyX4 : Nat → FieldType := fun k => match k with
  | 0 => .array .int
  | 1 => .array .int
  | 2 => .int
  | 3 => .int
  | _ => .int
abbrev wsX40 : List Cond := u_ws RX4 TX4 5
theorem nmX4 : ∀ a, a < 5 → ∀ b, b < 5 → a ≠ b → (TX4 a).2.1 ≠ (TX4 b).2.1 := by decide +kernel
theorem tyX4_ok : ∀ k, k < 5 → parseFieldDescriptor (TX4 k).2.2.1 = some (tyX4 k) := by decide +kernel
def RX5 : String := "TrustedPause$Sentences"
def TX5 : u_T := fun k => match k with
  | 0 => ("TrustedPause$Sentences", "endIn", "[I", true)
  | 1 => ("TrustedPause$Sentences", "endOut", "[I", true)
  | 2 => ("TrustedPause$Sentences", "openIn", "[I", true)
  | _ => ("TrustedPause$Sentences", "openOut", "[I", true)
def tyX5 : Nat → FieldType := fun k => match k with
  | 0 => .array .int
  | 1 => .array .int
  | 2 => .array .int
  | _ => .array .int
abbrev wsX50 : List Cond := u_ws RX5 TX5 4
theorem nmX5 : ∀ a, a < 4 → ∀ b, b < 4 → a ≠ b → (TX5 a).2.1 ≠ (TX5 b).2.1 := by decide +kernel
theorem tyX5_ok : ∀ k, k < 4 → parseFieldDescriptor (TX5 k).2.2.1 = some (tyX5 k) := by decide +kernel
def RX6 : String := "TrustedPause$Sights"
def TX6 : u_T := fun k => match k with
  | 0 => ("TrustedPause$Sights", "minutes", "[I", true)
  | 1 => ("TrustedPause$Sights", "kins", "[I", true)
  | 2 => ("TrustedPause$Sights", "silences", "[Z", true)
  | _ => ("TrustedPause$Sights", "count", "I", false)
def tyX6 : Nat → FieldType := fun k => match k with
  | 0 => .array .int
  | 1 => .array .int
  | 2 => .array .boolean
  | _ => .int
abbrev wsX60 : List Cond := u_ws RX6 TX6 4
theorem nmX6 : ∀ a, a < 4 → ∀ b, b < 4 → a ≠ b → (TX6 a).2.1 ≠ (TX6 b).2.1 := by decide +kernel
theorem tyX6_ok : ∀ k, k < 4 → parseFieldDescriptor (TX6 k).2.2.1 = some (tyX6 k) := by decide +kernel
def RX7 : String := "TrustedPause$Tasks"
def TX7 : u_T := fun k => match k with
  | 0 => ("TrustedPause$Tasks", "kins", "[I", true)
  | 1 => ("TrustedPause$Tasks", "minutes", "[I", true)
  | 2 => ("TrustedPause$Tasks", "worths", "[I", true)
  | 3 => ("TrustedPause$Tasks", "mostWorth", "I", false)
  | _ => ("TrustedPause$Tasks", "fewestServed", "I", false)
def tyX7 : Nat → FieldType := fun k => match k with
  | 0 => .array .int
  | 1 => .array .int
  | 2 => .array .int
  | 3 => .int
  | _ => .int
abbrev wsX70 : List Cond := u_ws RX7 TX7 5
theorem nmX7 : ∀ a, a < 5 → ∀ b, b < 5 → a ≠ b → (TX7 a).2.1 ≠ (TX7 b).2.1 := by decide +kernel
theorem tyX7_ok : ∀ k, k < 5 → parseFieldDescriptor (TX7 k).2.2.1 = some (tyX7 k) := by decide +kernel
def RX8 : String := "TrustedPause"
def TX8 : u_T := fun k => match k with
  | 0 => ("TrustedPause", "family", "LTrustedPause$Family;", true)
  | 1 => ("TrustedPause", "trial", "LTrustedPause$Family;", true)
  | 2 => ("TrustedPause", "pad", "LTrustedPause$Pad;", true)
  | 3 => ("TrustedPause", "day", "LTrustedPause$Day;", true)
  | 4 => ("TrustedPause", "tasks", "LTrustedPause$Tasks;", true)
  | 5 => ("TrustedPause", "sights", "LTrustedPause$Sights;", true)
  | 6 => ("TrustedPause", "rounds", "LTrustedPause$Rounds;", true)
  | 7 => ("TrustedPause", "phrases", "LTrustedPause$Sentences;", true)
  | 8 => ("TrustedPause", "winningWaits", "[I", true)
  | 9 => ("TrustedPause", "image0", "LTrustedPause$Image;", true)
  | _ => ("TrustedPause", "image1", "LTrustedPause$Image;", true)
def tyX8 : Nat → FieldType := fun k => match k with
  | 0 => .object "TrustedPause$Family"
  | 1 => .object "TrustedPause$Family"
  | 2 => .object "TrustedPause$Pad"
  | 3 => .object "TrustedPause$Day"
  | 4 => .object "TrustedPause$Tasks"
  | 5 => .object "TrustedPause$Sights"
  | 6 => .object "TrustedPause$Rounds"
  | 7 => .object "TrustedPause$Sentences"
  | 8 => .array .int
  | 9 => .object "TrustedPause$Image"
  | _ => .object "TrustedPause$Image"
abbrev wsX80 : List Cond := u_ws RX8 TX8 11
theorem nmX8 : ∀ a, a < 11 → ∀ b, b < 11 → a ≠ b → (TX8 a).2.1 ≠ (TX8 b).2.1 := by decide +kernel
theorem tyX8_ok : ∀ k, k < 11 → parseFieldDescriptor (TX8 k).2.2.1 = some (tyX8 k) := by decide +kernel
def RX9 : String := "TrustedPauseModel"
def TX9 : u_T := fun k => match k with
  | 0 => ("TrustedPauseModel", "living", "I", false)
  | 1 => ("TrustedPauseModel", "age", "[I", true)
  | 2 => ("TrustedPauseModel", "breath", "[I", true)
  | 3 => ("TrustedPauseModel", "letters", "[I", true)
  | 4 => ("TrustedPauseModel", "ties", "[I", true)
  | 5 => ("TrustedPauseModel", "holder", "I", false)
  | 6 => ("TrustedPauseModel", "saved", "I", false)
  | 7 => ("TrustedPauseModel", "taskKin", "[I", true)
  | 8 => ("TrustedPauseModel", "taskMinute", "[I", true)
  | 9 => ("TrustedPauseModel", "taskWorth", "[I", true)
  | 10 => ("TrustedPauseModel", "sightMinute", "[I", true)
  | 11 => ("TrustedPauseModel", "sightKin", "[I", true)
  | 12 => ("TrustedPauseModel", "sightSilent", "[I", true)
  | 13 => ("TrustedPauseModel", "sights", "I", false)
  | 14 => ("TrustedPauseModel", "pad", "[I", true)
  | 15 => ("TrustedPauseModel", "padMany", "I", false)
  | 16 => ("TrustedPauseModel", "act", "[I", true)
  | 17 => ("TrustedPauseModel", "who", "[I", true)
  | 18 => ("TrustedPauseModel", "whom", "[I", true)
  | 19 => ("TrustedPauseModel", "begins", "[I", true)
  | 20 => ("TrustedPauseModel", "ends", "[I", true)
  | 21 => ("TrustedPauseModel", "acts", "I", false)
  | 22 => ("TrustedPauseModel", "had", "[I", true)
  | 23 => ("TrustedPauseModel", "badAct", "I", false)
  | 24 => ("TrustedPauseModel", "badWhy", "I", false)
  | 25 => ("TrustedPauseModel", "savedThen", "I", false)
  | 26 => ("TrustedPauseModel", "firstAct", "I", false)
  | 27 => ("TrustedPauseModel", "firstWho", "I", false)
  | 28 => ("TrustedPauseModel", "ways", "[J", true)
  | 29 => ("TrustedPauseModel", "waysThen", "[J", true)
  | 30 => ("TrustedPauseModel", "can", "[Z", true)
  | 31 => ("TrustedPauseModel", "byKin", "[I", true)
  | 32 => ("TrustedPauseModel", "takes", "[I", true)
  | 33 => ("TrustedPauseModel", "kept", "[I", true)
  | 34 => ("TrustedPauseModel", "isKept", "[Z", true)
  | 35 => ("TrustedPauseModel", "keptAt", "I", false)
  | _ => ("TrustedPauseModel", "isWriting", "Z", false)
def tyX9 : Nat → FieldType := fun k => match k with
  | 0 => .int
  | 1 => .array .int
  | 2 => .array .int
  | 3 => .array .int
  | 4 => .array .int
  | 5 => .int
  | 6 => .int
  | 7 => .array .int
  | 8 => .array .int
  | 9 => .array .int
  | 10 => .array .int
  | 11 => .array .int
  | 12 => .array .int
  | 13 => .int
  | 14 => .array .int
  | 15 => .int
  | 16 => .array .int
  | 17 => .array .int
  | 18 => .array .int
  | 19 => .array .int
  | 20 => .array .int
  | 21 => .int
  | 22 => .array .int
  | 23 => .int
  | 24 => .int
  | 25 => .int
  | 26 => .int
  | 27 => .int
  | 28 => .array .long
  | 29 => .array .long
  | 30 => .array .boolean
  | 31 => .array .int
  | 32 => .array .int
  | 33 => .array .int
  | 34 => .array .boolean
  | 35 => .int
  | _ => .boolean
abbrev wsX90 : List Cond := u_ws RX9 TX9 37
theorem nmX9 : ∀ a, a < 37 → ∀ b, b < 37 → a ≠ b → (TX9 a).2.1 ≠ (TX9 b).2.1 := by decide +kernel
theorem tyX9_ok : ∀ k, k < 37 → parseFieldDescriptor (TX9 k).2.2.1 = some (tyX9 k) := by decide +kernel
abbrev vwCl : List vw_C := [(RX0, TX0, 6), (RX1, TX1, 7), (RX2, TX2, 4), (RX3, TX3, 2), (RX4, TX4, 5), (RX5, TX5, 4), (RX6, TX6, 4), (RX7, TX7, 5), (RX8, TX8, 11), (RX9, TX9, 37)]
