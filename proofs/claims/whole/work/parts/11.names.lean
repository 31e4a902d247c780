/-! what the real machine is told of: classes, methods, words by their places (printed) -/
def R_law0 : String := "FlotsamQuorumLaw"
def RX0 : String := "FlotsamQuorum$Acts"
def TX0 : u_T := fun k => match k with
  | 0 => ("FlotsamQuorum$Acts", "bodies", "[I", true)
  | 1 => ("FlotsamQuorum$Acts", "ran", "I", false)
  | 2 => ("FlotsamQuorum$Acts", "number", "I", false)
  | 3 => ("FlotsamQuorum$Acts", "kind", "I", false)
  | _ => ("FlotsamQuorum$Acts", "v", "I", false)
def tyX0 : Nat → FieldType := fun k => match k with
  | 0 => .array .int
  | 1 => .int
  | 2 => .int
  | 3 => .int
  | _ => .int
theorem nmX0 : ∀ a, a < 5 → ∀ b, b < 5 → a ≠ b → (TX0 a).2.1 ≠ (TX0 b).2.1 := by decide +kernel
theorem tyX0_ok : ∀ k, k < 5 → parseFieldDescriptor (TX0 k).2.2.1 = some (tyX0 k) := by decide +kernel
def RX1 : String := "FlotsamQuorum$Bar"
def TX1 : u_T := fun k => match k with
  | 0 => ("FlotsamQuorum$Bar", "factor", "[I", true)
  | 1 => ("FlotsamQuorum$Bar", "codeEnd", "[I", true)
  | 2 => ("FlotsamQuorum$Bar", "code", "[I", true)
  | 3 => ("FlotsamQuorum$Bar", "clauses", "I", false)
  | 4 => ("FlotsamQuorum$Bar", "codeSize", "I", false)
  | _ => ("FlotsamQuorum$Bar", "quorum", "I", false)
def tyX1 : Nat → FieldType := fun k => match k with
  | 0 => .array .int
  | 1 => .array .int
  | 2 => .array .int
  | 3 => .int
  | 4 => .int
  | _ => .int
theorem nmX1 : ∀ a, a < 6 → ∀ b, b < 6 → a ≠ b → (TX1 a).2.1 ≠ (TX1 b).2.1 := by decide +kernel
theorem tyX1_ok : ∀ k, k < 6 → parseFieldDescriptor (TX1 k).2.2.1 = some (tyX1 k) := by decide +kernel
def RX2 : String := "FlotsamQuorum$Everything"
def TX2 : u_T := fun k => match k with
  | 0 => ("FlotsamQuorum$Everything", "shore", "LFlotsamQuorum$Shore;", true)
  | 1 => ("FlotsamQuorum$Everything", "tape", "[I", true)
  | 2 => ("FlotsamQuorum$Everything", "signs", "I", false)
  | 3 => ("FlotsamQuorum$Everything", "bars", "I", false)
  | 4 => ("FlotsamQuorum$Everything", "seen", "LFlotsamQuorum$Rows;", true)
  | 5 => ("FlotsamQuorum$Everything", "plan", "LFlotsamQuorum$Rows;", true)
  | _ => ("FlotsamQuorum$Everything", "book", "LFlotsamQuorum$Rows;", true)
def tyX2 : Nat → FieldType := fun k => match k with
  | 0 => .object "FlotsamQuorum$Shore"
  | 1 => .array .int
  | 2 => .int
  | 3 => .int
  | 4 => .object "FlotsamQuorum$Rows"
  | 5 => .object "FlotsamQuorum$Rows"
  | _ => .object "FlotsamQuorum$Rows"
theorem nmX2 : ∀ a, a < 7 → ∀ b, b < 7 → a ≠ b → (TX2 a).2.1 ≠ (TX2 b).2.1 := by decide +kernel
theorem tyX2_ok : ∀ k, k < 7 → parseFieldDescriptor (TX2 k).2.2.1 = some (tyX2 k) := by decide +kernel
def RX3 : String := "FlotsamQuorum$Reader"
def TX3 : u_T := fun k => match k with
  | 0 => ("FlotsamQuorum$Reader", "draft", "LFlotsamQuorum$Bar;", true)
  | 1 => ("FlotsamQuorum$Reader", "at", "I", false)
  | 2 => ("FlotsamQuorum$Reader", "tape", "[I", true)
  | 3 => ("FlotsamQuorum$Reader", "size", "I", false)
  | _ => ("FlotsamQuorum$Reader", "number", "I", false)
def tyX3 : Nat → FieldType := fun k => match k with
  | 0 => .object "FlotsamQuorum$Bar"
  | 1 => .int
  | 2 => .array .int
  | 3 => .int
  | _ => .int
theorem nmX3 : ∀ a, a < 5 → ∀ b, b < 5 → a ≠ b → (TX3 a).2.1 ≠ (TX3 b).2.1 := by decide +kernel
theorem tyX3_ok : ∀ k, k < 5 → parseFieldDescriptor (TX3 k).2.2.1 = some (tyX3 k) := by decide +kernel
def RX4 : String := "FlotsamQuorum$Rows"
def TX4 : u_T := fun k => match k with
  | 0 => ("FlotsamQuorum$Rows", "first", "[I", true)
  | 1 => ("FlotsamQuorum$Rows", "second", "[I", true)
  | 2 => ("FlotsamQuorum$Rows", "third", "[I", true)
  | _ => ("FlotsamQuorum$Rows", "size", "I", false)
def tyX4 : Nat → FieldType := fun k => match k with
  | 0 => .array .int
  | 1 => .array .int
  | 2 => .array .int
  | _ => .int
theorem nmX4 : ∀ a, a < 4 → ∀ b, b < 4 → a ≠ b → (TX4 a).2.1 ≠ (TX4 b).2.1 := by decide +kernel
theorem tyX4_ok : ∀ k, k < 4 → parseFieldDescriptor (TX4 k).2.2.1 = some (tyX4 k) := by decide +kernel
def RX5 : String := "FlotsamQuorum$Shore"
def TX5 : u_T := fun k => match k with
  | 0 => ("FlotsamQuorum$Shore", "bar", "LFlotsamQuorum$Bar;", true)
  | 1 => ("FlotsamQuorum$Shore", "things", "LFlotsamQuorum$Things;", true)
  | 2 => ("FlotsamQuorum$Shore", "winds", "[I", true)
  | 3 => ("FlotsamQuorum$Shore", "agenda", "[I", true)
  | 4 => ("FlotsamQuorum$Shore", "agendaSize", "I", false)
  | 5 => ("FlotsamQuorum$Shore", "carried", "I", false)
  | 6 => ("FlotsamQuorum$Shore", "tide", "I", false)
  | _ => ("FlotsamQuorum$Shore", "facts", "[I", true)
def tyX5 : Nat → FieldType := fun k => match k with
  | 0 => .object "FlotsamQuorum$Bar"
  | 1 => .object "FlotsamQuorum$Things"
  | 2 => .array .int
  | 3 => .array .int
  | 4 => .int
  | 5 => .int
  | 6 => .int
  | _ => .array .int
theorem nmX5 : ∀ a, a < 8 → ∀ b, b < 8 → a ≠ b → (TX5 a).2.1 ≠ (TX5 b).2.1 := by decide +kernel
theorem tyX5_ok : ∀ k, k < 8 → parseFieldDescriptor (TX5 k).2.2.1 = some (tyX5 k) := by decide +kernel
def RX6 : String := "FlotsamQuorum$Things"
def TX6 : u_T := fun k => match k with
  | 0 => ("FlotsamQuorum$Things", "kind", "[I", true)
  | 1 => ("FlotsamQuorum$Things", "v", "[I", true)
  | 2 => ("FlotsamQuorum$Things", "weight", "[I", true)
  | 3 => ("FlotsamQuorum$Things", "drift", "[I", true)
  | 4 => ("FlotsamQuorum$Things", "rows", "[I", true)
  | 5 => ("FlotsamQuorum$Things", "lost", "I", false)
  | _ => ("FlotsamQuorum$Things", "size", "I", false)
def tyX6 : Nat → FieldType := fun k => match k with
  | 0 => .array .int
  | 1 => .array .int
  | 2 => .array .int
  | 3 => .array .int
  | 4 => .array .int
  | 5 => .int
  | _ => .int
theorem nmX6 : ∀ a, a < 7 → ∀ b, b < 7 → a ≠ b → (TX6 a).2.1 ≠ (TX6 b).2.1 := by decide +kernel
theorem tyX6_ok : ∀ k, k < 7 → parseFieldDescriptor (TX6 k).2.2.1 = some (tyX6 k) := by decide +kernel
def RX7 : String := "FlotsamQuorum"
def TX7 : u_T := fun k => match k with
  | 0 => ("FlotsamQuorum", "now", "LFlotsamQuorum$Everything;", true)
  | 1 => ("FlotsamQuorum", "kept", "LFlotsamQuorum$Everything;", true)
  | 2 => ("FlotsamQuorum", "isKept", "Z", false)
  | 3 => ("FlotsamQuorum", "trial", "LFlotsamQuorum$Shore;", true)
  | 4 => ("FlotsamQuorum", "reader", "LFlotsamQuorum$Reader;", true)
  | 5 => ("FlotsamQuorum", "acts", "LFlotsamQuorum$Acts;", true)
  | 6 => ("FlotsamQuorum", "tried", "[I", true)
  | _ => ("FlotsamQuorum", "best", "[I", true)
def tyX7 : Nat → FieldType := fun k => match k with
  | 0 => .object "FlotsamQuorum$Everything"
  | 1 => .object "FlotsamQuorum$Everything"
  | 2 => .boolean
  | 3 => .object "FlotsamQuorum$Shore"
  | 4 => .object "FlotsamQuorum$Reader"
  | 5 => .object "FlotsamQuorum$Acts"
  | 6 => .array .int
  | _ => .array .int
theorem nmX7 : ∀ a, a < 8 → ∀ b, b < 8 → a ≠ b → (TX7 a).2.1 ≠ (TX7 b).2.1 := by decide +kernel
theorem tyX7_ok : ∀ k, k < 8 → parseFieldDescriptor (TX7 k).2.2.1 = some (tyX7 k) := by decide +kernel
def RX8 : String := "FlotsamQuorumModel"
def TX8 : u_T := fun k => match k with
  | 0 => ("FlotsamQuorumModel", "thrown", "I", false)
  | 1 => ("FlotsamQuorumModel", "s", "[I", true)
  | 2 => ("FlotsamQuorumModel", "image", "[I", true)
  | 3 => ("FlotsamQuorumModel", "frame", "[I", true)
  | 4 => ("FlotsamQuorumModel", "hasImage", "Z", false)
  | 5 => ("FlotsamQuorumModel", "act", "I", false)
  | 6 => ("FlotsamQuorumModel", "spot", "I", false)
  | 7 => ("FlotsamQuorumModel", "end", "I", false)
  | 8 => ("FlotsamQuorumModel", "isWrong", "Z", false)
  | 9 => ("FlotsamQuorumModel", "open", "I", false)
  | 10 => ("FlotsamQuorumModel", "by", "[I", true)
  | 11 => ("FlotsamQuorumModel", "truths", "[Z", true)
  | 12 => ("FlotsamQuorumModel", "line", "[I", true)
  | 13 => ("FlotsamQuorumModel", "bestLine", "[I", true)
  | 14 => ("FlotsamQuorumModel", "mostSo", "I", false)
  | 15 => ("FlotsamQuorumModel", "bodies", "[I", true)
  | 16 => ("FlotsamQuorumModel", "ran", "I", false)
  | 17 => ("FlotsamQuorumModel", "kind", "I", false)
  | 18 => ("FlotsamQuorumModel", "number", "I", false)
  | _ => ("FlotsamQuorumModel", "tellsV", "I", false)
def tyX8 : Nat → FieldType := fun k => match k with
  | 0 => .int
  | 1 => .array .int
  | 2 => .array .int
  | 3 => .array .int
  | 4 => .boolean
  | 5 => .int
  | 6 => .int
  | 7 => .int
  | 8 => .boolean
  | 9 => .int
  | 10 => .array .int
  | 11 => .array .boolean
  | 12 => .array .int
  | 13 => .array .int
  | 14 => .int
  | 15 => .array .int
  | 16 => .int
  | 17 => .int
  | 18 => .int
  | _ => .int
theorem nmX8 : ∀ a, a < 20 → ∀ b, b < 20 → a ≠ b → (TX8 a).2.1 ≠ (TX8 b).2.1 := by decide +kernel
theorem tyX8_ok : ∀ k, k < 20 → parseFieldDescriptor (TX8 k).2.2.1 = some (tyX8 k) := by decide +kernel
def sx_cl : List vw_C := [(RX0, TX0, 5), (RX1, TX1, 6), (RX2, TX2, 7), (RX3, TX3, 5), (RX4, TX4, 4), (RX5, TX5, 8), (RX6, TX6, 7), (RX7, TX7, 8), (RX8, TX8, 20)]
def sx_own_T : List String := ["FlotsamQuorum$Acts", "FlotsamQuorum$Bar", "FlotsamQuorum$Everything", "FlotsamQuorum$Reader", "FlotsamQuorum$Rows", "FlotsamQuorum$Shore", "FlotsamQuorum$Things", "FlotsamQuorum", "FlotsamQuorumModel", "FlotsamQuorumLaw", "java/lang/Integer"]
def sx_own (c : Nat) : String := sx_own_T.getD c ""
def sx_nm_T : List MethodName := [⟨"FlotsamQuorum$Acts", "<init>", "()V"⟩, ⟨"FlotsamQuorum$Acts", "run", "(LFlotsamQuorum$Acts;IIII)I"⟩, ⟨"FlotsamQuorum$Acts", "ownerOf", "(II)I"⟩, ⟨"FlotsamQuorum$Bar", "<init>", "()V"⟩, ⟨"FlotsamQuorum$Bar", "clear", "()V"⟩, ⟨"FlotsamQuorum$Bar", "endClause", "(I)V"⟩, ⟨"FlotsamQuorum$Bar", "add", "(III)I"⟩, ⟨"FlotsamQuorum$Bar", "jumpToHere", "(I)V"⟩, ⟨"FlotsamQuorum$Bar", "sum", "([I)I"⟩, ⟨"FlotsamQuorum$Bar", "holds", "(II[I)Z"⟩, ⟨"FlotsamQuorum$Bar", "copyFrom", "(LFlotsamQuorum$Bar;)V"⟩, ⟨"FlotsamQuorum$Everything", "<init>", "()V"⟩, ⟨"FlotsamQuorum$Everything", "copyFrom", "(LFlotsamQuorum$Everything;)V"⟩, ⟨"FlotsamQuorum$Reader", "<init>", "()V"⟩, ⟨"FlotsamQuorum$Reader", "reads", "([II)Z"⟩, ⟨"FlotsamQuorum$Reader", "isClause", "()Z"⟩, ⟨"FlotsamQuorum$Reader", "isExpression", "(I)Z"⟩, ⟨"FlotsamQuorum$Reader", "isTerm", "(I)Z"⟩, ⟨"FlotsamQuorum$Reader", "isFactor", "(I)Z"⟩, ⟨"FlotsamQuorum$Reader", "takesOneOf", "(Ljava/lang/String;)I"⟩, ⟨"FlotsamQuorum$Reader", "isWord", "(Ljava/lang/String;)Z"⟩, ⟨"FlotsamQuorum$Reader", "isNumberNext", "()Z"⟩, ⟨"FlotsamQuorum$Reader", "takes", "(I)Z"⟩, ⟨"FlotsamQuorum$Reader", "sign", "()I"⟩, ⟨"FlotsamQuorum$Rows", "<init>", "(I)V"⟩, ⟨"FlotsamQuorum$Rows", "add", "(III)I"⟩, ⟨"FlotsamQuorum$Rows", "greatestSecond", "()I"⟩, ⟨"FlotsamQuorum$Rows", "copyFrom", "(LFlotsamQuorum$Rows;)V"⟩, ⟨"FlotsamQuorum$Shore", "<init>", "()V"⟩, ⟨"FlotsamQuorum$Shore", "hasOnAgenda", "(I)Z"⟩, ⟨"FlotsamQuorum$Shore", "thoseIn", "()I"⟩, ⟨"FlotsamQuorum$Shore", "goTides", "(I)V"⟩, ⟨"FlotsamQuorum$Shore", "goTide", "()V"⟩, ⟨"FlotsamQuorum$Shore", "isVotedFor", "(II)Z"⟩, ⟨"FlotsamQuorum$Shore", "likes", "(II)I"⟩, ⟨"FlotsamQuorum$Shore", "likesOfChair", "(III)I"⟩, ⟨"FlotsamQuorum$Shore", "likesOfCask", "(I)I"⟩, ⟨"FlotsamQuorum$Shore", "goBackTo", "(LFlotsamQuorum$Shore;)V"⟩, ⟨"FlotsamQuorum$Shore", "copyFrom", "(LFlotsamQuorum$Shore;)V"⟩, ⟨"FlotsamQuorum$Things", "<init>", "()V"⟩, ⟨"FlotsamQuorum$Things", "has", "(I)Z"⟩, ⟨"FlotsamQuorum$Things", "add", "(III)I"⟩, ⟨"FlotsamQuorum$Things", "weightOf", "(I)I"⟩, ⟨"FlotsamQuorum$Things", "copyFrom", "(LFlotsamQuorum$Things;)V"⟩, ⟨"FlotsamQuorum", "<init>", "()V"⟩, ⟨"FlotsamQuorum", "feed", "(I)I"⟩, ⟨"FlotsamQuorum", "bar", "()I"⟩, ⟨"FlotsamQuorum", "thing", "(III)I"⟩, ⟨"FlotsamQuorum", "of", "(II)I"⟩, ⟨"FlotsamQuorum", "row", "(III)I"⟩, ⟨"FlotsamQuorum", "set", "(III)I"⟩, ⟨"FlotsamQuorum", "lose", "(IZ)I"⟩, ⟨"FlotsamQuorum", "wind", "(II)I"⟩, ⟨"FlotsamQuorum", "move", "(I)I"⟩, ⟨"FlotsamQuorum", "carry", "(IZ)I"⟩, ⟨"FlotsamQuorum", "told", "(I)I"⟩, ⟨"FlotsamQuorum", "pass", "(I)I"⟩, ⟨"FlotsamQuorum", "on", "(II)I"⟩, ⟨"FlotsamQuorum", "when", "(I)I"⟩, ⟨"FlotsamQuorum", "order", "(II)I"⟩, ⟨"FlotsamQuorum", "blows", "(I)I"⟩, ⟨"FlotsamQuorum", "stop", "(I)I"⟩, ⟨"FlotsamQuorum", "see", "(IIZ)I"⟩, ⟨"FlotsamQuorum", "drifts", "(I)I"⟩, ⟨"FlotsamQuorum", "firm", "(II)I"⟩, ⟨"FlotsamQuorum", "power", "(II)J"⟩, ⟨"FlotsamQuorum", "odds", "(II)J"⟩, ⟨"FlotsamQuorum", "mean", "(I)J"⟩, ⟨"FlotsamQuorum", "plan", "(II)I"⟩, ⟨"FlotsamQuorum", "done", "(I)I"⟩, ⟨"FlotsamQuorum", "book", "(II)I"⟩, ⟨"FlotsamQuorum", "looked", "()I"⟩, ⟨"FlotsamQuorum", "act", "(III)I"⟩, ⟨"FlotsamQuorum", "trace", "(I)I"⟩, ⟨"FlotsamQuorum", "as", "(II)I"⟩, ⟨"FlotsamQuorum", "image", "()I"⟩, ⟨"FlotsamQuorum", "undo", "()I"⟩, ⟨"FlotsamQuorum", "count", "(I)I"⟩, ⟨"FlotsamQuorum", "tidesTillStill", "()I"⟩, ⟨"FlotsamQuorum", "findBestRow", "(I)I"⟩, ⟨"FlotsamQuorum", "windsThatCarry", "(I)I"⟩, ⟨"FlotsamQuorum", "isCarriedWithout", "(II)Z"⟩, ⟨"FlotsamQuorum", "numbersAsSeen", "([II)I"⟩, ⟨"FlotsamQuorum", "isAllAsSeen", "()Z"⟩, ⟨"FlotsamQuorum", "rowsTurnedBy", "(II)J"⟩, ⟨"FlotsamQuorum", "doPlanned", "(II)V"⟩, ⟨"FlotsamQuorum", "isNumber", "(I)Z"⟩, ⟨"FlotsamQuorum", "isMotion", "(I)Z"⟩, ⟨"FlotsamQuorum", "isKind", "(I)Z"⟩, ⟨"FlotsamQuorum", "isPart", "(I)Z"⟩, ⟨"FlotsamQuorum", "isUnder", "(II)Z"⟩, ⟨"FlotsamQuorum", "cell", "([II)I"⟩, ⟨"FlotsamQuorum", "put", "([III)V"⟩, ⟨"FlotsamQuorum", "exchange", "([III)I"⟩, ⟨"FlotsamQuorum", "copy", "([I[I)V"⟩, ⟨"FlotsamQuorum", "bit", "(II)I"⟩, ⟨"FlotsamQuorum", "withBit", "(IIZ)I"⟩, ⟨"FlotsamQuorum", "leastOf", "(I)I"⟩, ⟨"FlotsamQuorum", "goToNextRow", "([I)V"⟩, ⟨"FlotsamQuorum", "fraction", "(JJI)J"⟩, ⟨"FlotsamQuorumModel", "<init>", "()V"⟩, ⟨"FlotsamQuorumModel", "in", "(III)Z"⟩, ⟨"FlotsamQuorumModel", "isDigit", "(I)Z"⟩, ⟨"FlotsamQuorumModel", "isMotion", "(I)Z"⟩, ⟨"FlotsamQuorumModel", "isThing", "(I)Z"⟩, ⟨"FlotsamQuorumModel", "keeps", "()V"⟩, ⟨"FlotsamQuorumModel", "goesBack", "()V"⟩, ⟨"FlotsamQuorumModel", "feed", "(I)I"⟩, ⟨"FlotsamQuorumModel", "here", "()I"⟩, ⟨"FlotsamQuorumModel", "must", "(I)V"⟩, ⟨"FlotsamQuorumModel", "spells", "(Ljava/lang/String;)V"⟩, ⟨"FlotsamQuorumModel", "figures", "()I"⟩, ⟨"FlotsamQuorumModel", "among", "(Ljava/lang/String;)I"⟩, ⟨"FlotsamQuorumModel", "emits", "(I)V"⟩, ⟨"FlotsamQuorumModel", "factor", "()V"⟩, ⟨"FlotsamQuorumModel", "every", "()V"⟩, ⟨"FlotsamQuorumModel", "some", "()V"⟩, ⟨"FlotsamQuorumModel", "much", "(ILjava/lang/String;)V"⟩, ⟨"FlotsamQuorumModel", "tellsHere", "(ILjava/lang/String;)V"⟩, ⟨"FlotsamQuorumModel", "clauseHere", "()V"⟩, ⟨"FlotsamQuorumModel", "bar", "()I"⟩, ⟨"FlotsamQuorumModel", "tellsOf", "(II)I"⟩, ⟨"FlotsamQuorumModel", "carriedMany", "()I"⟩, ⟨"FlotsamQuorumModel", "sumOf", "(II)I"⟩, ⟨"FlotsamQuorumModel", "likesOf", "(II)I"⟩, ⟨"FlotsamQuorumModel", "isHere", "(I)Z"⟩, ⟨"FlotsamQuorumModel", "hereOnes", "()I"⟩, ⟨"FlotsamQuorumModel", "countOf", "(I)I"⟩, ⟨"FlotsamQuorumModel", "carriedOnes", "()I"⟩, ⟨"FlotsamQuorumModel", "becomes", "(II)I"⟩, ⟨"FlotsamQuorumModel", "thing", "(III)I"⟩, ⟨"FlotsamQuorumModel", "of", "(II)I"⟩, ⟨"FlotsamQuorumModel", "row", "(III)I"⟩, ⟨"FlotsamQuorumModel", "set", "(III)I"⟩, ⟨"FlotsamQuorumModel", "lose", "(IZ)I"⟩, ⟨"FlotsamQuorumModel", "wind", "(II)I"⟩, ⟨"FlotsamQuorumModel", "isListed", "(I)Z"⟩, ⟨"FlotsamQuorumModel", "move", "(I)I"⟩, ⟨"FlotsamQuorumModel", "carry", "(IZ)I"⟩, ⟨"FlotsamQuorumModel", "votesOn", "(II)V"⟩, ⟨"FlotsamQuorumModel", "goes", "()V"⟩, ⟨"FlotsamQuorumModel", "goesByLine", "()V"⟩, ⟨"FlotsamQuorumModel", "goesOn", "(I)V"⟩, ⟨"FlotsamQuorumModel", "pass", "(I)I"⟩, ⟨"FlotsamQuorumModel", "on", "(II)I"⟩, ⟨"FlotsamQuorumModel", "when", "(I)I"⟩, ⟨"FlotsamQuorumModel", "still", "()I"⟩, ⟨"FlotsamQuorumModel", "told", "(I)I"⟩, ⟨"FlotsamQuorumModel", "triesLine", "(I)V"⟩, ⟨"FlotsamQuorumModel", "linesFrom", "(III)V"⟩, ⟨"FlotsamQuorumModel", "order", "(II)I"⟩, ⟨"FlotsamQuorumModel", "isCarriedThen", "(I)Z"⟩, ⟨"FlotsamQuorumModel", "blowing", "(I)I"⟩, ⟨"FlotsamQuorumModel", "blows", "(I)I"⟩, ⟨"FlotsamQuorumModel", "stop", "(I)I"⟩, ⟨"FlotsamQuorumModel", "see", "(IIZ)I"⟩, ⟨"FlotsamQuorumModel", "isAsSeen", "(I)Z"⟩, ⟨"FlotsamQuorumModel", "areAsSeen", "()Z"⟩, ⟨"FlotsamQuorumModel", "drifts", "(I)I"⟩, ⟨"FlotsamQuorumModel", "firm", "(II)I"⟩, ⟨"FlotsamQuorumModel", "lowest", "(JJI)J"⟩, ⟨"FlotsamQuorumModel", "rows", "(I)J"⟩, ⟨"FlotsamQuorumModel", "weightsOf", "(I)I"⟩, ⟨"FlotsamQuorumModel", "power", "(II)J"⟩, ⟨"FlotsamQuorumModel", "odds", "(II)J"⟩, ⟨"FlotsamQuorumModel", "mean", "(I)J"⟩, ⟨"FlotsamQuorumModel", "plan", "(II)I"⟩, ⟨"FlotsamQuorumModel", "goesBy", "(II)V"⟩, ⟨"FlotsamQuorumModel", "done", "(I)I"⟩, ⟨"FlotsamQuorumModel", "book", "(II)I"⟩, ⟨"FlotsamQuorumModel", "looked", "()I"⟩, ⟨"FlotsamQuorumModel", "ranBody", "(I)V"⟩, ⟨"FlotsamQuorumModel", "isUnder", "(II)Z"⟩, ⟨"FlotsamQuorumModel", "plainBobs", "(I)I"⟩, ⟨"FlotsamQuorumModel", "bobsActs", "(I)I"⟩, ⟨"FlotsamQuorumModel", "plainSits", "(I)I"⟩, ⟨"FlotsamQuorumModel", "sitsActs", "(I)I"⟩, ⟨"FlotsamQuorumModel", "plainTelling", "(I)I"⟩, ⟨"FlotsamQuorumModel", "votesActs", "(I)I"⟩, ⟨"FlotsamQuorumModel", "act", "(III)I"⟩, ⟨"FlotsamQuorumModel", "trace", "(I)I"⟩, ⟨"FlotsamQuorumModel", "as", "(II)I"⟩, ⟨"FlotsamQuorumModel", "image", "()I"⟩, ⟨"FlotsamQuorumModel", "undo", "()I"⟩, ⟨"FlotsamQuorumModel", "count", "(I)I"⟩, ⟨"java/lang/Integer", "bitCount", "(I)I"⟩, ⟨"FlotsamQuorumLaw", "law", "([I)Z"⟩]
def sx_nm (y : Nat) : MethodName := sx_nm_T.getD y ⟨"", "", ""⟩
def sx_by_T : List ByteArray := [prog_2_method_1_code, prog_2_method_2_code, prog_2_method_3_code, prog_3_method_1_code, prog_3_method_2_code, prog_3_method_3_code, prog_3_method_4_code, prog_3_method_5_code, prog_3_method_6_code, prog_3_method_7_code, prog_3_method_8_code, prog_4_method_1_code, prog_4_method_2_code, prog_5_method_1_code, prog_5_method_2_code, prog_5_method_3_code, prog_5_method_4_code, prog_5_method_5_code, prog_5_method_6_code, prog_5_method_7_code, prog_5_method_8_code, prog_5_method_9_code, prog_5_method_10_code, prog_5_method_11_code, prog_6_method_1_code, prog_6_method_2_code, prog_6_method_3_code, prog_6_method_4_code, prog_7_method_1_code, prog_7_method_2_code, prog_7_method_3_code, prog_7_method_4_code, prog_7_method_5_code, prog_7_method_6_code, prog_7_method_7_code, prog_7_method_8_code, prog_7_method_9_code, prog_7_method_10_code, prog_7_method_11_code, prog_8_method_1_code, prog_8_method_2_code, prog_8_method_3_code, prog_8_method_4_code, prog_8_method_5_code, prog_1_method_1_code, prog_1_method_2_code, prog_1_method_3_code, prog_1_method_4_code, prog_1_method_5_code, prog_1_method_6_code, prog_1_method_7_code, prog_1_method_8_code, prog_1_method_9_code, prog_1_method_10_code, prog_1_method_11_code, prog_1_method_12_code, prog_1_method_13_code, prog_1_method_14_code, prog_1_method_15_code, prog_1_method_16_code, prog_1_method_17_code, prog_1_method_18_code, prog_1_method_19_code, prog_1_method_20_code, prog_1_method_21_code, prog_1_method_22_code, prog_1_method_23_code, prog_1_method_24_code, prog_1_method_25_code, prog_1_method_26_code, prog_1_method_27_code, prog_1_method_28_code, prog_1_method_29_code, prog_1_method_30_code, prog_1_method_31_code, prog_1_method_32_code, prog_1_method_33_code, prog_1_method_34_code, prog_1_method_35_code, prog_1_method_36_code, prog_1_method_37_code, prog_1_method_38_code, prog_1_method_39_code, prog_1_method_40_code, prog_1_method_41_code, prog_1_method_42_code, prog_1_method_43_code, prog_1_method_44_code, prog_1_method_45_code, prog_1_method_46_code, prog_1_method_47_code, prog_1_method_48_code, prog_1_method_49_code, prog_1_method_50_code, prog_1_method_51_code, prog_1_method_52_code, prog_1_method_53_code, prog_1_method_54_code, prog_1_method_55_code, prog_1_method_56_code, prog_10_method_1_code, prog_10_method_3_code, prog_10_method_4_code, prog_10_method_5_code, prog_10_method_6_code, prog_10_method_7_code, prog_10_method_8_code, prog_10_method_9_code, prog_10_method_10_code, prog_10_method_11_code, prog_10_method_12_code, prog_10_method_13_code, prog_10_method_14_code, prog_10_method_15_code, prog_10_method_16_code, prog_10_method_17_code, prog_10_method_18_code, prog_10_method_19_code, prog_10_method_20_code, prog_10_method_21_code, prog_10_method_22_code, prog_10_method_23_code, prog_10_method_24_code, prog_10_method_25_code, prog_10_method_26_code, prog_10_method_27_code, prog_10_method_28_code, prog_10_method_29_code, prog_10_method_30_code, prog_10_method_31_code, prog_10_method_32_code, prog_10_method_33_code, prog_10_method_34_code, prog_10_method_35_code, prog_10_method_36_code, prog_10_method_37_code, prog_10_method_38_code, prog_10_method_39_code, prog_10_method_40_code, prog_10_method_41_code, prog_10_method_42_code, prog_10_method_43_code, prog_10_method_44_code, prog_10_method_45_code, prog_10_method_46_code, prog_10_method_47_code, prog_10_method_48_code, prog_10_method_49_code, prog_10_method_50_code, prog_10_method_51_code, prog_10_method_52_code, prog_10_method_53_code, prog_10_method_54_code, prog_10_method_55_code, prog_10_method_56_code, prog_10_method_57_code, prog_10_method_58_code, prog_10_method_59_code, prog_10_method_60_code, prog_10_method_61_code, prog_10_method_62_code, prog_10_method_63_code, prog_10_method_64_code, prog_10_method_65_code, prog_10_method_66_code, prog_10_method_67_code, prog_10_method_68_code, prog_10_method_69_code, prog_10_method_70_code, prog_10_method_71_code, prog_10_method_72_code, prog_10_method_73_code, prog_10_method_74_code, prog_10_method_75_code, prog_10_method_76_code, prog_10_method_77_code, prog_10_method_78_code, prog_10_method_79_code, prog_10_method_80_code, prog_10_method_81_code, prog_10_method_82_code, prog_10_method_83_code, prog_10_method_84_code, prog_10_method_85_code, prog_10_method_86_code, prog_11_method_49_code, code]
def sx_by (y : Nat) : ByteArray := sx_by_T.getD y ⟨#[]⟩
def sx_rt_T : List (Option FieldType) := [none, some .int, some .int, none, none, none, some .int, none, some .int, some .boolean, none, none, none, none, some .boolean, some .boolean, some .boolean, some .boolean, some .boolean, some .int, some .boolean, some .boolean, some .boolean, some .int, none, some .int, some .int, none, none, some .boolean, some .int, none, none, some .boolean, some .int, some .int, some .int, none, none, none, some .boolean, some .int, some .int, none, none, some .int, some .int, some .int, some .int, some .int, some .int, some .int, some .int, some .int, some .int, some .int, some .int, some .int, some .int, some .int, some .int, some .int, some .int, some .int, some .int, some .long, some .long, some .long, some .int, some .int, some .int, some .int, some .int, some .int, some .int, some .int, some .int, some .int, some .int, some .int, some .int, some .boolean, some .int, some .boolean, some .long, none, some .boolean, some .boolean, some .boolean, some .boolean, some .boolean, some .int, none, some .int, none, some .int, some .int, some .int, none, some .long, none, some .boolean, some .boolean, some .boolean, some .boolean, none, none, some .int, some .int, none, none, some .int, some .int, none, none, none, none, none, none, none, some .int, some .int, some .int, some .int, some .int, some .boolean, some .int, some .int, some .int, some .int, some .int, some .int, some .int, some .int, some .int, some .int, some .boolean, some .int, some .int, none, none, none, none, some .int, some .int, some .int, some .int, some .int, none, none, some .int, some .boolean, some .int, some .int, some .int, some .int, some .boolean, some .boolean, some .int, some .int, some .long, some .long, some .int, some .long, some .long, some .long, some .int, none, some .int, some .int, some .int, none, some .boolean, some .int, some .int, some .int, some .int, some .int, some .int, some .int, some .int, some .int, some .int, some .int, some .int, some .int, ret]
def sx_rt (y : Nat) : Option FieldType := sx_rt_T.getD y none
def sx_big : List Cond := lw_tbl.filter goodWord
theorem sx_mem {w : Cond} (i : Nat) (h : tables_1[i]? = some w) (g : goodWord w = true) : w ∈ sx_big := List.mem_filter.mpr ⟨List.mem_append_right _ (List.mem_of_getElem? h), g⟩
theorem sx_memP {w : Cond} (i : Nat) (h : (k2_sels lw_privs)[i]? = some w) (g : goodWord w = true) : w ∈ sx_big := List.mem_filter.mpr ⟨List.mem_append_left _ (List.mem_of_getElem? h), g⟩
def sx_wB (w : Cond) (i : Nat) : Bool := decide (tables_1[i]? = some w) && goodWord w
theorem sx_wB_mem {w : Cond} {i : Nat} (h : sx_wB w i = true) : w ∈ sx_big := by
  simp only [sx_wB, Bool.and_eq_true, decide_eq_true_eq] at h
  exact sx_mem i h.1 h.2
theorem sx_nB_mem {w : Cond} {i : Nat} (h : decide (tables_1[i]? = some w) = true) : w ∈ tables_1 := List.mem_of_getElem? (of_decide_eq_true h)
theorem sx_lookup {α : Type} {a : Nat} {b : α} : ∀ {l : List (Nat × α)}, l.lookup a = some b → (a, b) ∈ l := by
  intro l
  induction l with
  | nil => intro h; simp at h
  | cons q r ih =>
    intro h
    obtain ⟨x, z⟩ := q
    rw [List.lookup_cons] at h
    by_cases e : a == x
    · rw [e] at h
      have e2 : a = x := by simpa using e
      cases h
      rw [e2]
      exact List.mem_cons_self
    · rw [show (a == x) = false by simpa using e] at h
      exact List.mem_cons_of_mem _ (ih h)
theorem sx_lookup2 {α : Type} {c a : Nat} {b : α} {t : List (Nat × List (Nat × α))} (h : ((t.lookup c).getD []).lookup a = some b) : ∃ l, (c, l) ∈ t ∧ (a, b) ∈ l := by
  cases hl : t.lookup c with
  | none => rw [hl] at h; simp at h
  | some l => rw [hl] at h; exact ⟨l, sx_lookup hl, sx_lookup h⟩

def sx_lenB : Instr → Nat → Bool
  | .bipush _, n => n == 2
  | .ldc _, n => n == 2
  | .iload _, n => n == 2
  | .lload _, n => n == 2
  | .aload _, n => n == 2
  | .istore _, n => n == 2
  | .lstore _, n => n == 2
  | .astore _, n => n == 2
  | .newarray _, n => n == 2
  | .sipush _, n => n == 3
  | .ldc_w _, n => n == 3
  | .ldc2_w _, n => n == 3
  | .iinc _ _, n => n == 3
  | .goto _, n => n == 3
  | .ifCond _ _, n => n == 3
  | .if_icmp _ _, n => n == 3
  | .new _, n => n == 3
  | .getfield _, n => n == 3
  | .putfield _, n => n == 3
  | .getstatic _, n => n == 3
  | .invokestatic _, n => n == 3
  | .invokevirtual _, n => n == 3
  | .invokespecial _, n => n == 3
  | .tableswitch _ _ _ _, _ => true
  | .lookupswitch _ _, _ => true
  | _, n => n == 1
def sx_cdB (b : ByteArray) (l : List (Nat × pm_I)) : Bool := l.all fun e => decide (decode b e.1 = .ok e.2) && sx_lenB e.2.1 e.2.2
theorem sx_cdB_app {b : ByteArray} {l l' : List (Nat × pm_I)} (h : sx_cdB b l = true) (h' : sx_cdB b l' = true) : sx_cdB b (l ++ l') = true := by
  unfold sx_cdB at *
  rw [List.all_append, h, h']
  rfl
theorem sx_cd_0 : sx_cdB prog_2_method_1_code k_Acts_init = true := by decide +kernel
theorem sx_cd_1_0 : sx_cdB prog_2_method_2_code ((k_Acts_run.drop 0).take 100) = true := by decide +kernel
theorem sx_cd_1_1 : sx_cdB prog_2_method_2_code ((k_Acts_run.drop 100).take 46) = true := by decide +kernel
theorem sx_cd_1 : sx_cdB prog_2_method_2_code k_Acts_run = true := by
  have e : k_Acts_run = ((k_Acts_run.drop 0).take 100 ++ ((k_Acts_run.drop 100).take 46)) := by decide +kernel
  rw [e]
  exact (sx_cdB_app sx_cd_1_0 sx_cd_1_1)
theorem sx_cd_2 : sx_cdB prog_2_method_3_code k_Acts_ownerOf = true := by decide +kernel
theorem sx_cd_3 : sx_cdB prog_3_method_1_code k_Bar_init = true := by decide +kernel
theorem sx_cd_4 : sx_cdB prog_3_method_2_code k_Bar_clear = true := by decide +kernel
theorem sx_cd_5 : sx_cdB prog_3_method_3_code k_Bar_endClause = true := by decide +kernel
theorem sx_cd_6 : sx_cdB prog_3_method_4_code k_Bar_add = true := by decide +kernel
theorem sx_cd_7 : sx_cdB prog_3_method_5_code k_Bar_jumpToHere = true := by decide +kernel
theorem sx_cd_8 : sx_cdB prog_3_method_6_code k_Bar_sum = true := by decide +kernel
theorem sx_cd_9 : sx_cdB prog_3_method_7_code k_Bar_holds = true := by decide +kernel
theorem sx_cd_10 : sx_cdB prog_3_method_8_code k_Bar_copyFrom = true := by decide +kernel
theorem sx_cd_11 : sx_cdB prog_4_method_1_code k_Everything_init = true := by decide +kernel
theorem sx_cd_12 : sx_cdB prog_4_method_2_code k_Everything_copyFrom = true := by decide +kernel
theorem sx_cd_13 : sx_cdB prog_5_method_1_code k_Reader_init = true := by decide +kernel
theorem sx_cd_14 : sx_cdB prog_5_method_2_code k_Reader_reads = true := by decide +kernel
theorem sx_cd_15 : sx_cdB prog_5_method_3_code k_Reader_isClause = true := by decide +kernel
theorem sx_cd_16 : sx_cdB prog_5_method_4_code k_Reader_isExpression = true := by decide +kernel
theorem sx_cd_17 : sx_cdB prog_5_method_5_code k_Reader_isTerm = true := by decide +kernel
theorem sx_cd_18 : sx_cdB prog_5_method_6_code k_Reader_isFactor = true := by decide +kernel
theorem sx_cd_19 : sx_cdB prog_5_method_7_code k_Reader_takesOneOf = true := by decide +kernel
theorem sx_cd_20 : sx_cdB prog_5_method_8_code k_Reader_isWord = true := by decide +kernel
theorem sx_cd_21 : sx_cdB prog_5_method_9_code k_Reader_isNumberNext = true := by decide +kernel
theorem sx_cd_22 : sx_cdB prog_5_method_10_code k_Reader_takes = true := by decide +kernel
theorem sx_cd_23 : sx_cdB prog_5_method_11_code k_Reader_sign = true := by decide +kernel
theorem sx_cd_24 : sx_cdB prog_6_method_1_code k_Rows_init = true := by decide +kernel
theorem sx_cd_25 : sx_cdB prog_6_method_2_code k_Rows_add = true := by decide +kernel
theorem sx_cd_26 : sx_cdB prog_6_method_3_code k_Rows_greatestSecond = true := by decide +kernel
theorem sx_cd_27 : sx_cdB prog_6_method_4_code k_Rows_copyFrom = true := by decide +kernel
theorem sx_cd_28 : sx_cdB prog_7_method_1_code k_Shore_init = true := by decide +kernel
theorem sx_cd_29 : sx_cdB prog_7_method_2_code k_Shore_hasOnAgenda = true := by decide +kernel
theorem sx_cd_30 : sx_cdB prog_7_method_3_code k_Shore_thoseIn = true := by decide +kernel
theorem sx_cd_31 : sx_cdB prog_7_method_4_code k_Shore_goTides = true := by decide +kernel
theorem sx_cd_32 : sx_cdB prog_7_method_5_code k_Shore_goTide = true := by decide +kernel
theorem sx_cd_33 : sx_cdB prog_7_method_6_code k_Shore_isVotedFor = true := by decide +kernel
theorem sx_cd_34 : sx_cdB prog_7_method_7_code k_Shore_likes = true := by decide +kernel
theorem sx_cd_35 : sx_cdB prog_7_method_8_code k_Shore_likesOfChair = true := by decide +kernel
theorem sx_cd_36 : sx_cdB prog_7_method_9_code k_Shore_likesOfCask = true := by decide +kernel
theorem sx_cd_37 : sx_cdB prog_7_method_10_code k_Shore_goBackTo = true := by decide +kernel
theorem sx_cd_38 : sx_cdB prog_7_method_11_code k_Shore_copyFrom = true := by decide +kernel
theorem sx_cd_39 : sx_cdB prog_8_method_1_code k_Things_init = true := by decide +kernel
theorem sx_cd_40 : sx_cdB prog_8_method_2_code k_Things_has = true := by decide +kernel
theorem sx_cd_41 : sx_cdB prog_8_method_3_code k_Things_add = true := by decide +kernel
theorem sx_cd_42 : sx_cdB prog_8_method_4_code k_Things_weightOf = true := by decide +kernel
theorem sx_cd_43 : sx_cdB prog_8_method_5_code k_Things_copyFrom = true := by decide +kernel
theorem sx_cd_44 : sx_cdB prog_1_method_1_code k_X_init = true := by decide +kernel
theorem sx_cd_45 : sx_cdB prog_1_method_2_code k_X_feed = true := by decide +kernel
theorem sx_cd_46 : sx_cdB prog_1_method_3_code k_X_bar = true := by decide +kernel
theorem sx_cd_47 : sx_cdB prog_1_method_4_code k_X_thing = true := by decide +kernel
theorem sx_cd_48 : sx_cdB prog_1_method_5_code k_X_of = true := by decide +kernel
theorem sx_cd_49 : sx_cdB prog_1_method_6_code k_X_row = true := by decide +kernel
theorem sx_cd_50 : sx_cdB prog_1_method_7_code k_X_set = true := by decide +kernel
theorem sx_cd_51 : sx_cdB prog_1_method_8_code k_X_lose = true := by decide +kernel
theorem sx_cd_52 : sx_cdB prog_1_method_9_code k_X_wind = true := by decide +kernel
theorem sx_cd_53 : sx_cdB prog_1_method_10_code k_X_move = true := by decide +kernel
theorem sx_cd_54 : sx_cdB prog_1_method_11_code k_X_carry = true := by decide +kernel
theorem sx_cd_55 : sx_cdB prog_1_method_12_code k_X_told = true := by decide +kernel
theorem sx_cd_56 : sx_cdB prog_1_method_13_code k_X_pass = true := by decide +kernel
theorem sx_cd_57 : sx_cdB prog_1_method_14_code k_X_on = true := by decide +kernel
theorem sx_cd_58 : sx_cdB prog_1_method_15_code k_X_when = true := by decide +kernel
theorem sx_cd_59 : sx_cdB prog_1_method_16_code k_X_order = true := by decide +kernel
theorem sx_cd_60 : sx_cdB prog_1_method_17_code k_X_blows = true := by decide +kernel
theorem sx_cd_61 : sx_cdB prog_1_method_18_code k_X_stop = true := by decide +kernel
theorem sx_cd_62 : sx_cdB prog_1_method_19_code k_X_see = true := by decide +kernel
theorem sx_cd_63 : sx_cdB prog_1_method_20_code k_X_drifts = true := by decide +kernel
theorem sx_cd_64 : sx_cdB prog_1_method_21_code k_X_firm = true := by decide +kernel
theorem sx_cd_65 : sx_cdB prog_1_method_22_code k_X_power = true := by decide +kernel
theorem sx_cd_66 : sx_cdB prog_1_method_23_code k_X_odds = true := by decide +kernel
theorem sx_cd_67 : sx_cdB prog_1_method_24_code k_X_mean = true := by decide +kernel
theorem sx_cd_68 : sx_cdB prog_1_method_25_code k_X_plan = true := by decide +kernel
theorem sx_cd_69 : sx_cdB prog_1_method_26_code k_X_done = true := by decide +kernel
theorem sx_cd_70 : sx_cdB prog_1_method_27_code k_X_book = true := by decide +kernel
theorem sx_cd_71 : sx_cdB prog_1_method_28_code k_X_looked = true := by decide +kernel
theorem sx_cd_72 : sx_cdB prog_1_method_29_code k_X_act = true := by decide +kernel
theorem sx_cd_73 : sx_cdB prog_1_method_30_code k_X_trace = true := by decide +kernel
theorem sx_cd_74 : sx_cdB prog_1_method_31_code k_X_as = true := by decide +kernel
theorem sx_cd_75 : sx_cdB prog_1_method_32_code k_X_image = true := by decide +kernel
theorem sx_cd_76 : sx_cdB prog_1_method_33_code k_X_undo = true := by decide +kernel
theorem sx_cd_77 : sx_cdB prog_1_method_34_code k_X_count = true := by decide +kernel
theorem sx_cd_78 : sx_cdB prog_1_method_35_code k_X_tidesTillStill = true := by decide +kernel
theorem sx_cd_79 : sx_cdB prog_1_method_36_code k_X_findBestRow = true := by decide +kernel
theorem sx_cd_80 : sx_cdB prog_1_method_37_code k_X_windsThatCarry = true := by decide +kernel
theorem sx_cd_81 : sx_cdB prog_1_method_38_code k_X_isCarriedWithout = true := by decide +kernel
theorem sx_cd_82 : sx_cdB prog_1_method_39_code k_X_numbersAsSeen = true := by decide +kernel
theorem sx_cd_83 : sx_cdB prog_1_method_40_code k_X_isAllAsSeen = true := by decide +kernel
theorem sx_cd_84 : sx_cdB prog_1_method_41_code k_X_rowsTurnedBy = true := by decide +kernel
theorem sx_cd_85 : sx_cdB prog_1_method_42_code k_X_doPlanned = true := by decide +kernel
theorem sx_cd_86 : sx_cdB prog_1_method_43_code k_X_isNumber = true := by decide +kernel
theorem sx_cd_87 : sx_cdB prog_1_method_44_code k_X_isMotion = true := by decide +kernel
theorem sx_cd_88 : sx_cdB prog_1_method_45_code k_X_isKind = true := by decide +kernel
theorem sx_cd_89 : sx_cdB prog_1_method_46_code k_X_isPart = true := by decide +kernel
theorem sx_cd_90 : sx_cdB prog_1_method_47_code k_X_isUnder = true := by decide +kernel
theorem sx_cd_91 : sx_cdB prog_1_method_48_code k_X_cell = true := by decide +kernel
theorem sx_cd_92 : sx_cdB prog_1_method_49_code k_X_put = true := by decide +kernel
theorem sx_cd_93 : sx_cdB prog_1_method_50_code k_X_exchange = true := by decide +kernel
theorem sx_cd_94 : sx_cdB prog_1_method_51_code k_X_copy = true := by decide +kernel
theorem sx_cd_95 : sx_cdB prog_1_method_52_code k_X_bit = true := by decide +kernel
theorem sx_cd_96 : sx_cdB prog_1_method_53_code k_X_withBit = true := by decide +kernel
theorem sx_cd_97 : sx_cdB prog_1_method_54_code k_X_leastOf = true := by decide +kernel
theorem sx_cd_98 : sx_cdB prog_1_method_55_code k_X_goToNextRow = true := by decide +kernel
theorem sx_cd_99 : sx_cdB prog_1_method_56_code k_X_fraction = true := by decide +kernel
theorem sx_cd_100 : sx_cdB prog_10_method_1_code k_M_init = true := by decide +kernel
theorem sx_cd_101 : sx_cdB prog_10_method_3_code k_M_in = true := by decide +kernel
theorem sx_cd_102 : sx_cdB prog_10_method_4_code k_M_isDigit = true := by decide +kernel
theorem sx_cd_103 : sx_cdB prog_10_method_5_code k_M_isMotion = true := by decide +kernel
theorem sx_cd_104 : sx_cdB prog_10_method_6_code k_M_isThing = true := by decide +kernel
theorem sx_cd_105 : sx_cdB prog_10_method_7_code k_M_keeps = true := by decide +kernel
theorem sx_cd_106 : sx_cdB prog_10_method_8_code k_M_goesBack = true := by decide +kernel
theorem sx_cd_107 : sx_cdB prog_10_method_9_code k_M_feed = true := by decide +kernel
theorem sx_cd_108 : sx_cdB prog_10_method_10_code k_M_here = true := by decide +kernel
theorem sx_cd_109 : sx_cdB prog_10_method_11_code k_M_must = true := by decide +kernel
theorem sx_cd_110 : sx_cdB prog_10_method_12_code k_M_spells = true := by decide +kernel
theorem sx_cd_111 : sx_cdB prog_10_method_13_code k_M_figures = true := by decide +kernel
theorem sx_cd_112 : sx_cdB prog_10_method_14_code k_M_among = true := by decide +kernel
theorem sx_cd_113 : sx_cdB prog_10_method_15_code k_M_emits = true := by decide +kernel
theorem sx_cd_114 : sx_cdB prog_10_method_16_code k_M_factor = true := by decide +kernel
theorem sx_cd_115 : sx_cdB prog_10_method_17_code k_M_every = true := by decide +kernel
theorem sx_cd_116 : sx_cdB prog_10_method_18_code k_M_some = true := by decide +kernel
theorem sx_cd_117 : sx_cdB prog_10_method_19_code k_M_much = true := by decide +kernel
theorem sx_cd_118 : sx_cdB prog_10_method_20_code k_M_tellsHere = true := by decide +kernel
theorem sx_cd_119 : sx_cdB prog_10_method_21_code k_M_clauseHere = true := by decide +kernel
theorem sx_cd_120 : sx_cdB prog_10_method_22_code k_M_bar = true := by decide +kernel
theorem sx_cd_121 : sx_cdB prog_10_method_23_code k_M_tellsOf = true := by decide +kernel
theorem sx_cd_122 : sx_cdB prog_10_method_24_code k_M_carriedMany = true := by decide +kernel
theorem sx_cd_123_0 : sx_cdB prog_10_method_25_code ((k_M_sumOf.drop 0).take 100) = true := by decide +kernel
theorem sx_cd_123_1 : sx_cdB prog_10_method_25_code ((k_M_sumOf.drop 100).take 100) = true := by decide +kernel
theorem sx_cd_123_2 : sx_cdB prog_10_method_25_code ((k_M_sumOf.drop 200).take 28) = true := by decide +kernel
theorem sx_cd_123 : sx_cdB prog_10_method_25_code k_M_sumOf = true := by
  have e : k_M_sumOf = ((k_M_sumOf.drop 0).take 100 ++ ((k_M_sumOf.drop 100).take 100 ++ ((k_M_sumOf.drop 200).take 28))) := by decide +kernel
  rw [e]
  exact (sx_cdB_app sx_cd_123_0 (sx_cdB_app sx_cd_123_1 sx_cd_123_2))
theorem sx_cd_124 : sx_cdB prog_10_method_26_code k_M_likesOf = true := by decide +kernel
theorem sx_cd_125 : sx_cdB prog_10_method_27_code k_M_isHere = true := by decide +kernel
theorem sx_cd_126 : sx_cdB prog_10_method_28_code k_M_hereOnes = true := by decide +kernel
theorem sx_cd_127 : sx_cdB prog_10_method_29_code k_M_countOf = true := by decide +kernel
theorem sx_cd_128 : sx_cdB prog_10_method_30_code k_M_carriedOnes = true := by decide +kernel
theorem sx_cd_129 : sx_cdB prog_10_method_31_code k_M_becomes = true := by decide +kernel
theorem sx_cd_130 : sx_cdB prog_10_method_32_code k_M_thing = true := by decide +kernel
theorem sx_cd_131 : sx_cdB prog_10_method_33_code k_M_of = true := by decide +kernel
theorem sx_cd_132 : sx_cdB prog_10_method_34_code k_M_row = true := by decide +kernel
theorem sx_cd_133 : sx_cdB prog_10_method_35_code k_M_set = true := by decide +kernel
theorem sx_cd_134 : sx_cdB prog_10_method_36_code k_M_lose = true := by decide +kernel
theorem sx_cd_135 : sx_cdB prog_10_method_37_code k_M_wind = true := by decide +kernel
theorem sx_cd_136 : sx_cdB prog_10_method_38_code k_M_isListed = true := by decide +kernel
theorem sx_cd_137 : sx_cdB prog_10_method_39_code k_M_move = true := by decide +kernel
theorem sx_cd_138 : sx_cdB prog_10_method_40_code k_M_carry = true := by decide +kernel
theorem sx_cd_139 : sx_cdB prog_10_method_41_code k_M_votesOn = true := by decide +kernel
theorem sx_cd_140 : sx_cdB prog_10_method_42_code k_M_goes = true := by decide +kernel
theorem sx_cd_141 : sx_cdB prog_10_method_43_code k_M_goesByLine = true := by decide +kernel
theorem sx_cd_142 : sx_cdB prog_10_method_44_code k_M_goesOn = true := by decide +kernel
theorem sx_cd_143 : sx_cdB prog_10_method_45_code k_M_pass = true := by decide +kernel
theorem sx_cd_144 : sx_cdB prog_10_method_46_code k_M_on = true := by decide +kernel
theorem sx_cd_145 : sx_cdB prog_10_method_47_code k_M_when = true := by decide +kernel
theorem sx_cd_146 : sx_cdB prog_10_method_48_code k_M_still = true := by decide +kernel
theorem sx_cd_147 : sx_cdB prog_10_method_49_code k_M_told = true := by decide +kernel
theorem sx_cd_148 : sx_cdB prog_10_method_50_code k_M_triesLine = true := by decide +kernel
theorem sx_cd_149 : sx_cdB prog_10_method_51_code k_M_linesFrom = true := by decide +kernel
theorem sx_cd_150 : sx_cdB prog_10_method_52_code k_M_order = true := by decide +kernel
theorem sx_cd_151 : sx_cdB prog_10_method_53_code k_M_isCarriedThen = true := by decide +kernel
theorem sx_cd_152 : sx_cdB prog_10_method_54_code k_M_blowing = true := by decide +kernel
theorem sx_cd_153 : sx_cdB prog_10_method_55_code k_M_blows = true := by decide +kernel
theorem sx_cd_154 : sx_cdB prog_10_method_56_code k_M_stop = true := by decide +kernel
theorem sx_cd_155 : sx_cdB prog_10_method_57_code k_M_see = true := by decide +kernel
theorem sx_cd_156 : sx_cdB prog_10_method_58_code k_M_isAsSeen = true := by decide +kernel
theorem sx_cd_157 : sx_cdB prog_10_method_59_code k_M_areAsSeen = true := by decide +kernel
theorem sx_cd_158 : sx_cdB prog_10_method_60_code k_M_drifts = true := by decide +kernel
theorem sx_cd_159 : sx_cdB prog_10_method_61_code k_M_firm = true := by decide +kernel
theorem sx_cd_160 : sx_cdB prog_10_method_62_code k_M_lowest = true := by decide +kernel
theorem sx_cd_161 : sx_cdB prog_10_method_63_code k_M_rows = true := by decide +kernel
theorem sx_cd_162 : sx_cdB prog_10_method_64_code k_M_weightsOf = true := by decide +kernel
theorem sx_cd_163 : sx_cdB prog_10_method_65_code k_M_power = true := by decide +kernel
theorem sx_cd_164 : sx_cdB prog_10_method_66_code k_M_odds = true := by decide +kernel
theorem sx_cd_165 : sx_cdB prog_10_method_67_code k_M_mean = true := by decide +kernel
theorem sx_cd_166 : sx_cdB prog_10_method_68_code k_M_plan = true := by decide +kernel
theorem sx_cd_167 : sx_cdB prog_10_method_69_code k_M_goesBy = true := by decide +kernel
theorem sx_cd_168 : sx_cdB prog_10_method_70_code k_M_done = true := by decide +kernel
theorem sx_cd_169 : sx_cdB prog_10_method_71_code k_M_book = true := by decide +kernel
theorem sx_cd_170 : sx_cdB prog_10_method_72_code k_M_looked = true := by decide +kernel
theorem sx_cd_171 : sx_cdB prog_10_method_73_code k_M_ranBody = true := by decide +kernel
theorem sx_cd_172 : sx_cdB prog_10_method_74_code k_M_isUnder = true := by decide +kernel
theorem sx_cd_173 : sx_cdB prog_10_method_75_code k_M_plainBobs = true := by decide +kernel
theorem sx_cd_174 : sx_cdB prog_10_method_76_code k_M_bobsActs = true := by decide +kernel
theorem sx_cd_175 : sx_cdB prog_10_method_77_code k_M_plainSits = true := by decide +kernel
theorem sx_cd_176 : sx_cdB prog_10_method_78_code k_M_sitsActs = true := by decide +kernel
theorem sx_cd_177 : sx_cdB prog_10_method_79_code k_M_plainTelling = true := by decide +kernel
theorem sx_cd_178 : sx_cdB prog_10_method_80_code k_M_votesActs = true := by decide +kernel
theorem sx_cd_179 : sx_cdB prog_10_method_81_code k_M_act = true := by decide +kernel
theorem sx_cd_180 : sx_cdB prog_10_method_82_code k_M_trace = true := by decide +kernel
theorem sx_cd_181 : sx_cdB prog_10_method_83_code k_M_as = true := by decide +kernel
theorem sx_cd_182 : sx_cdB prog_10_method_84_code k_M_image = true := by decide +kernel
theorem sx_cd_183 : sx_cdB prog_10_method_85_code k_M_undo = true := by decide +kernel
theorem sx_cd_184 : sx_cdB prog_10_method_86_code k_M_count = true := by decide +kernel
theorem sx_cd_185 : sx_cdB prog_11_method_49_code k_Integer_bitCount = true := by decide +kernel
theorem sx_cd_186_0 : sx_cdB code ((k_law.drop 0).take 100) = true := by decide +kernel
theorem sx_cd_186_1 : sx_cdB code ((k_law.drop 100).take 100) = true := by decide +kernel
theorem sx_cd_186_2 : sx_cdB code ((k_law.drop 200).take 100) = true := by decide +kernel
theorem sx_cd_186_3 : sx_cdB code ((k_law.drop 300).take 100) = true := by decide +kernel
theorem sx_cd_186_4 : sx_cdB code ((k_law.drop 400).take 100) = true := by decide +kernel
theorem sx_cd_186_5 : sx_cdB code ((k_law.drop 500).take 100) = true := by decide +kernel
theorem sx_cd_186_6 : sx_cdB code ((k_law.drop 600).take 100) = true := by decide +kernel
theorem sx_cd_186_7 : sx_cdB code ((k_law.drop 700).take 94) = true := by decide +kernel
theorem sx_cd_186 : sx_cdB code k_law = true := by
  have e : k_law = ((k_law.drop 0).take 100 ++ ((k_law.drop 100).take 100 ++ ((k_law.drop 200).take 100 ++ ((k_law.drop 300).take 100 ++ ((k_law.drop 400).take 100 ++ ((k_law.drop 500).take 100 ++ ((k_law.drop 600).take 100 ++ ((k_law.drop 700).take 94)))))))) := by decide +kernel
  rw [e]
  exact (sx_cdB_app sx_cd_186_0 (sx_cdB_app sx_cd_186_1 (sx_cdB_app sx_cd_186_2 (sx_cdB_app sx_cd_186_3 (sx_cdB_app sx_cd_186_4 (sx_cdB_app sx_cd_186_5 (sx_cdB_app sx_cd_186_6 sx_cd_186_7)))))))
theorem sx_cd_all : ∀ y, y < 187 → sx_cdB (sx_by y) (fq_code.getD y []) = true := by
  intro y hy
  match y, hy with
  | 0, _ => exact sx_cd_0
  | 1, _ => exact sx_cd_1
  | 2, _ => exact sx_cd_2
  | 3, _ => exact sx_cd_3
  | 4, _ => exact sx_cd_4
  | 5, _ => exact sx_cd_5
  | 6, _ => exact sx_cd_6
  | 7, _ => exact sx_cd_7
  | 8, _ => exact sx_cd_8
  | 9, _ => exact sx_cd_9
  | 10, _ => exact sx_cd_10
  | 11, _ => exact sx_cd_11
  | 12, _ => exact sx_cd_12
  | 13, _ => exact sx_cd_13
  | 14, _ => exact sx_cd_14
  | 15, _ => exact sx_cd_15
  | 16, _ => exact sx_cd_16
  | 17, _ => exact sx_cd_17
  | 18, _ => exact sx_cd_18
  | 19, _ => exact sx_cd_19
  | 20, _ => exact sx_cd_20
  | 21, _ => exact sx_cd_21
  | 22, _ => exact sx_cd_22
  | 23, _ => exact sx_cd_23
  | 24, _ => exact sx_cd_24
  | 25, _ => exact sx_cd_25
  | 26, _ => exact sx_cd_26
  | 27, _ => exact sx_cd_27
  | 28, _ => exact sx_cd_28
  | 29, _ => exact sx_cd_29
  | 30, _ => exact sx_cd_30
  | 31, _ => exact sx_cd_31
  | 32, _ => exact sx_cd_32
  | 33, _ => exact sx_cd_33
  | 34, _ => exact sx_cd_34
  | 35, _ => exact sx_cd_35
  | 36, _ => exact sx_cd_36
  | 37, _ => exact sx_cd_37
  | 38, _ => exact sx_cd_38
  | 39, _ => exact sx_cd_39
  | 40, _ => exact sx_cd_40
  | 41, _ => exact sx_cd_41
  | 42, _ => exact sx_cd_42
  | 43, _ => exact sx_cd_43
  | 44, _ => exact sx_cd_44
  | 45, _ => exact sx_cd_45
  | 46, _ => exact sx_cd_46
  | 47, _ => exact sx_cd_47
  | 48, _ => exact sx_cd_48
  | 49, _ => exact sx_cd_49
  | 50, _ => exact sx_cd_50
  | 51, _ => exact sx_cd_51
  | 52, _ => exact sx_cd_52
  | 53, _ => exact sx_cd_53
  | 54, _ => exact sx_cd_54
  | 55, _ => exact sx_cd_55
  | 56, _ => exact sx_cd_56
  | 57, _ => exact sx_cd_57
  | 58, _ => exact sx_cd_58
  | 59, _ => exact sx_cd_59
  | 60, _ => exact sx_cd_60
  | 61, _ => exact sx_cd_61
  | 62, _ => exact sx_cd_62
  | 63, _ => exact sx_cd_63
  | 64, _ => exact sx_cd_64
  | 65, _ => exact sx_cd_65
  | 66, _ => exact sx_cd_66
  | 67, _ => exact sx_cd_67
  | 68, _ => exact sx_cd_68
  | 69, _ => exact sx_cd_69
  | 70, _ => exact sx_cd_70
  | 71, _ => exact sx_cd_71
  | 72, _ => exact sx_cd_72
  | 73, _ => exact sx_cd_73
  | 74, _ => exact sx_cd_74
  | 75, _ => exact sx_cd_75
  | 76, _ => exact sx_cd_76
  | 77, _ => exact sx_cd_77
  | 78, _ => exact sx_cd_78
  | 79, _ => exact sx_cd_79
  | 80, _ => exact sx_cd_80
  | 81, _ => exact sx_cd_81
  | 82, _ => exact sx_cd_82
  | 83, _ => exact sx_cd_83
  | 84, _ => exact sx_cd_84
  | 85, _ => exact sx_cd_85
  | 86, _ => exact sx_cd_86
  | 87, _ => exact sx_cd_87
  | 88, _ => exact sx_cd_88
  | 89, _ => exact sx_cd_89
  | 90, _ => exact sx_cd_90
  | 91, _ => exact sx_cd_91
  | 92, _ => exact sx_cd_92
  | 93, _ => exact sx_cd_93
  | 94, _ => exact sx_cd_94
  | 95, _ => exact sx_cd_95
  | 96, _ => exact sx_cd_96
  | 97, _ => exact sx_cd_97
  | 98, _ => exact sx_cd_98
  | 99, _ => exact sx_cd_99
  | 100, _ => exact sx_cd_100
  | 101, _ => exact sx_cd_101
  | 102, _ => exact sx_cd_102
  | 103, _ => exact sx_cd_103
  | 104, _ => exact sx_cd_104
  | 105, _ => exact sx_cd_105
  | 106, _ => exact sx_cd_106
  | 107, _ => exact sx_cd_107
  | 108, _ => exact sx_cd_108
  | 109, _ => exact sx_cd_109
  | 110, _ => exact sx_cd_110
  | 111, _ => exact sx_cd_111
  | 112, _ => exact sx_cd_112
  | 113, _ => exact sx_cd_113
  | 114, _ => exact sx_cd_114
  | 115, _ => exact sx_cd_115
  | 116, _ => exact sx_cd_116
  | 117, _ => exact sx_cd_117
  | 118, _ => exact sx_cd_118
  | 119, _ => exact sx_cd_119
  | 120, _ => exact sx_cd_120
  | 121, _ => exact sx_cd_121
  | 122, _ => exact sx_cd_122
  | 123, _ => exact sx_cd_123
  | 124, _ => exact sx_cd_124
  | 125, _ => exact sx_cd_125
  | 126, _ => exact sx_cd_126
  | 127, _ => exact sx_cd_127
  | 128, _ => exact sx_cd_128
  | 129, _ => exact sx_cd_129
  | 130, _ => exact sx_cd_130
  | 131, _ => exact sx_cd_131
  | 132, _ => exact sx_cd_132
  | 133, _ => exact sx_cd_133
  | 134, _ => exact sx_cd_134
  | 135, _ => exact sx_cd_135
  | 136, _ => exact sx_cd_136
  | 137, _ => exact sx_cd_137
  | 138, _ => exact sx_cd_138
  | 139, _ => exact sx_cd_139
  | 140, _ => exact sx_cd_140
  | 141, _ => exact sx_cd_141
  | 142, _ => exact sx_cd_142
  | 143, _ => exact sx_cd_143
  | 144, _ => exact sx_cd_144
  | 145, _ => exact sx_cd_145
  | 146, _ => exact sx_cd_146
  | 147, _ => exact sx_cd_147
  | 148, _ => exact sx_cd_148
  | 149, _ => exact sx_cd_149
  | 150, _ => exact sx_cd_150
  | 151, _ => exact sx_cd_151
  | 152, _ => exact sx_cd_152
  | 153, _ => exact sx_cd_153
  | 154, _ => exact sx_cd_154
  | 155, _ => exact sx_cd_155
  | 156, _ => exact sx_cd_156
  | 157, _ => exact sx_cd_157
  | 158, _ => exact sx_cd_158
  | 159, _ => exact sx_cd_159
  | 160, _ => exact sx_cd_160
  | 161, _ => exact sx_cd_161
  | 162, _ => exact sx_cd_162
  | 163, _ => exact sx_cd_163
  | 164, _ => exact sx_cd_164
  | 165, _ => exact sx_cd_165
  | 166, _ => exact sx_cd_166
  | 167, _ => exact sx_cd_167
  | 168, _ => exact sx_cd_168
  | 169, _ => exact sx_cd_169
  | 170, _ => exact sx_cd_170
  | 171, _ => exact sx_cd_171
  | 172, _ => exact sx_cd_172
  | 173, _ => exact sx_cd_173
  | 174, _ => exact sx_cd_174
  | 175, _ => exact sx_cd_175
  | 176, _ => exact sx_cd_176
  | 177, _ => exact sx_cd_177
  | 178, _ => exact sx_cd_178
  | 179, _ => exact sx_cd_179
  | 180, _ => exact sx_cd_180
  | 181, _ => exact sx_cd_181
  | 182, _ => exact sx_cd_182
  | 183, _ => exact sx_cd_183
  | 184, _ => exact sx_cd_184
  | 185, _ => exact sx_cd_185
  | 186, _ => exact sx_cd_186
  | y + 187, hy => exact absurd hy (by omega)
theorem sx_fet_dec {y pc n : Nat} {i : Instr} (h : fq_fet y pc = some (i, n)) : y < 187 ∧ decode (sx_by y) pc = .ok (i, n) ∧ sx_lenB i n = true := by
  have hy : y < 187 := by
    by_cases hy : y < 187
    · exact hy
    · have hl : fq_code.length = 187 := by decide +kernel
      have hn : fq_code[y]? = none := List.getElem?_eq_none (by omega)
      unfold fq_fet at h
      rw [List.getD_eq_getElem?_getD, hn] at h
      simp at h
  have hm := sx_lookup (show (fq_code.getD y []).lookup pc = some (i, n) from h)
  have ha := sx_cd_all y hy
  unfold sx_cdB at ha
  have := List.all_eq_true.mp ha _ hm
  simp only [Bool.and_eq_true, decide_eq_true_eq] at this
  exact ⟨hy, this.1, this.2⟩
