def RX0 : String := "SkinLeague$Match"
def TX0 : u_T := fun k => match k with
  | 0 => ("SkinLeague$Match", "winner", "LSkinLeague$Player;", true)
  | 1 => ("SkinLeague$Match", "loser", "LSkinLeague$Player;", true)
  | 2 => ("SkinLeague$Match", "season", "LSkinLeague$Season;", true)
  | _ => ("SkinLeague$Match", "day", "I", true)
def tyX0 : Nat → FieldType := fun k => match k with
  | 0 => .object "SkinLeague$Player"
  | 1 => .object "SkinLeague$Player"
  | 2 => .object "SkinLeague$Season"
  | _ => .int
abbrev wsX00 : List Cond := u_ws RX0 TX0 4
theorem nmX0 : ∀ a, a < 4 → ∀ b, b < 4 → a ≠ b → (TX0 a).2.1 ≠ (TX0 b).2.1 := by decide +kernel
theorem tyX0_ok : ∀ k, k < 4 → parseFieldDescriptor (TX0 k).2.2.1 = some (tyX0 k) := by decide +kernel
abbrev cX0_init : ByteArray := prog_2_method_1_code
def yX0_init : MethodName := ⟨RX0, "<init>", "(LSkinLeague$Player;LSkinLeague$Player;LSkinLeague$Season;I)V"⟩
abbrev cX0_isStanding : ByteArray := prog_2_method_2_code
def yX0_isStanding : MethodName := ⟨RX0, "isStanding", "()Z"⟩
abbrev cX0_addPoints : ByteArray := prog_2_method_3_code
def yX0_addPoints : MethodName := ⟨RX0, "addPoints", "()V"⟩
def RX1 : String := "SkinLeague$Player"
def TX1 : u_T := fun k => match k with
  | 0 => ("SkinLeague$Player", "number", "I", true)
  | 1 => ("SkinLeague$Player", "balance", "I", false)
  | 2 => ("SkinLeague$Player", "cheatedSince", "I", false)
  | _ => ("SkinLeague$Player", "freeFrom", "I", false)
def tyX1 : Nat → FieldType := fun k => match k with
  | 0 => .int
  | 1 => .int
  | 2 => .int
  | _ => .int
abbrev wsX10 : List Cond := u_ws RX1 TX1 4
theorem nmX1 : ∀ a, a < 4 → ∀ b, b < 4 → a ≠ b → (TX1 a).2.1 ≠ (TX1 b).2.1 := by decide +kernel
theorem tyX1_ok : ∀ k, k < 4 → parseFieldDescriptor (TX1 k).2.2.1 = some (tyX1 k) := by decide +kernel
abbrev cX1_init : ByteArray := prog_3_method_1_code
def yX1_init : MethodName := ⟨RX1, "<init>", "(I)V"⟩
abbrev cX1_isBanned : ByteArray := prog_3_method_2_code
def yX1_isBanned : MethodName := ⟨RX1, "isBanned", "(I)Z"⟩
abbrev cX1_isProven : ByteArray := prog_3_method_3_code
def yX1_isProven : MethodName := ⟨RX1, "isProven", "()Z"⟩
abbrev cX1_isProvenOn : ByteArray := prog_3_method_4_code
def yX1_isProvenOn : MethodName := ⟨RX1, "isProvenOn", "(I)Z"⟩
abbrev cX1_prove : ByteArray := prog_3_method_5_code
def yX1_prove : MethodName := ⟨RX1, "prove", "(I)V"⟩
def RX2 : String := "SkinLeague$Region"
def TX2 : u_T := fun k => match k with
  | 0 => ("SkinLeague$Region", "roomADay", "I", false)
  | _ => ("SkinLeague$Region", "matchesToday", "I", false)
def tyX2 : Nat → FieldType := fun k => match k with
  | 0 => .int
  | _ => .int
abbrev wsX20 : List Cond := u_ws RX2 TX2 2
theorem nmX2 : ∀ a, a < 2 → ∀ b, b < 2 → a ≠ b → (TX2 a).2.1 ≠ (TX2 b).2.1 := by decide +kernel
theorem tyX2_ok : ∀ k, k < 2 → parseFieldDescriptor (TX2 k).2.2.1 = some (tyX2 k) := by decide +kernel
abbrev cX2_init : ByteArray := prog_4_method_1_code
def yX2_init : MethodName := ⟨RX2, "<init>", "()V"⟩
abbrev cX2_isFull : ByteArray := prog_4_method_2_code
def yX2_isFull : MethodName := ⟨RX2, "isFull", "()Z"⟩
def RX3 : String := "SkinLeague$Sale"
def TX3 : u_T := fun k => match k with
  | 0 => ("SkinLeague$Sale", "seller", "LSkinLeague$Player;", true)
  | 1 => ("SkinLeague$Sale", "buyer", "LSkinLeague$Player;", true)
  | _ => ("SkinLeague$Sale", "price", "I", true)
def tyX3 : Nat → FieldType := fun k => match k with
  | 0 => .object "SkinLeague$Player"
  | 1 => .object "SkinLeague$Player"
  | _ => .int
abbrev wsX30 : List Cond := u_ws RX3 TX3 3
theorem nmX3 : ∀ a, a < 3 → ∀ b, b < 3 → a ≠ b → (TX3 a).2.1 ≠ (TX3 b).2.1 := by decide +kernel
theorem tyX3_ok : ∀ k, k < 3 → parseFieldDescriptor (TX3 k).2.2.1 = some (tyX3 k) := by decide +kernel
abbrev cX3_init : ByteArray := prog_5_method_1_code
def yX3_init : MethodName := ⟨RX3, "<init>", "(LSkinLeague$Player;LSkinLeague$Player;I)V"⟩
abbrev cX3_isInFaithNow : ByteArray := prog_5_method_2_code
def yX3_isInFaithNow : MethodName := ⟨RX3, "isInFaithNow", "()Z"⟩
def RX4 : String := "SkinLeague$Season"
def TX4 : u_T := fun k => match k with
  | 0 => ("SkinLeague$Season", "number", "I", true)
  | 1 => ("SkinLeague$Season", "points", "[I", true)
  | _ => ("SkinLeague$Season", "games", "[I", true)
def tyX4 : Nat → FieldType := fun k => match k with
  | 0 => .int
  | 1 => .array .int
  | _ => .array .int
abbrev wsX40 : List Cond := u_ws RX4 TX4 3
theorem nmX4 : ∀ a, a < 3 → ∀ b, b < 3 → a ≠ b → (TX4 a).2.1 ≠ (TX4 b).2.1 := by decide +kernel
theorem tyX4_ok : ∀ k, k < 3 → parseFieldDescriptor (TX4 k).2.2.1 = some (tyX4 k) := by decide +kernel
abbrev cX4_init : ByteArray := prog_6_method_1_code
def yX4_init : MethodName := ⟨RX4, "<init>", "(I)V"⟩
abbrev cX4_forgetPoints : ByteArray := prog_6_method_2_code
def yX4_forgetPoints : MethodName := ⟨RX4, "forgetPoints", "()V"⟩
abbrev cX4_add : ByteArray := prog_6_method_3_code
def yX4_add : MethodName := ⟨RX4, "add", "(II)V"⟩
abbrev cX4_pointsOf : ByteArray := prog_6_method_4_code
def yX4_pointsOf : MethodName := ⟨RX4, "pointsOf", "(I)I"⟩
abbrev cX4_gamesOf : ByteArray := prog_6_method_5_code
def yX4_gamesOf : MethodName := ⟨RX4, "gamesOf", "(I)I"⟩
abbrev cX4_placeOf : ByteArray := prog_6_method_6_code
def yX4_placeOf : MethodName := ⟨RX4, "placeOf", "(I)I"⟩
abbrev cX4_playerOn : ByteArray := prog_6_method_7_code
def yX4_playerOn : MethodName := ⟨RX4, "playerOn", "(I)I"⟩
abbrev cX4_firstBehind : ByteArray := prog_6_method_8_code
def yX4_firstBehind : MethodName := ⟨RX4, "firstBehind", "(I)I"⟩
abbrev cX4_isAhead : ByteArray := prog_6_method_9_code
def yX4_isAhead : MethodName := ⟨RX4, "isAhead", "(II)Z"⟩
def RX5 : String := "SkinLeague$Skin"
def TX5 : u_T := fun k => match k with
  | 0 => ("SkinLeague$Skin", "number", "I", true)
  | 1 => ("SkinLeague$Skin", "season", "LSkinLeague$Season;", true)
  | 2 => ("SkinLeague$Skin", "place", "I", true)
  | 3 => ("SkinLeague$Skin", "sales", "[LSkinLeague$Sale;", true)
  | 4 => ("SkinLeague$Skin", "saleCount", "I", false)
  | 5 => ("SkinLeague$Skin", "firstInFaith", "LSkinLeague$Sale;", false)
  | 6 => ("SkinLeague$Skin", "heir", "LSkinLeague$Player;", false)
  | 7 => ("SkinLeague$Skin", "holder", "LSkinLeague$Player;", false)
  | 8 => ("SkinLeague$Skin", "borrower", "LSkinLeague$Player;", false)
  | _ => ("SkinLeague$Skin", "lastLentDay", "I", false)
def tyX5 : Nat → FieldType := fun k => match k with
  | 0 => .int
  | 1 => .object "SkinLeague$Season"
  | 2 => .int
  | 3 => .array (.object "SkinLeague$Sale")
  | 4 => .int
  | 5 => .object "SkinLeague$Sale"
  | 6 => .object "SkinLeague$Player"
  | 7 => .object "SkinLeague$Player"
  | 8 => .object "SkinLeague$Player"
  | _ => .int
abbrev wsX50 : List Cond := u_ws RX5 TX5 10
theorem nmX5 : ∀ a, a < 10 → ∀ b, b < 10 → a ≠ b → (TX5 a).2.1 ≠ (TX5 b).2.1 := by decide +kernel
theorem tyX5_ok : ∀ k, k < 10 → parseFieldDescriptor (TX5 k).2.2.1 = some (tyX5 k) := by decide +kernel
abbrev cX5_init : ByteArray := prog_7_method_1_code
def yX5_init : MethodName := ⟨RX5, "<init>", "(ILSkinLeague$Season;ILSkinLeague$Player;)V"⟩
abbrev cX5_isGood : ByteArray := prog_7_method_2_code
def yX5_isGood : MethodName := ⟨RX5, "isGood", "()Z"⟩
abbrev cX5_isSoldOften : ByteArray := prog_7_method_3_code
def yX5_isSoldOften : MethodName := ⟨RX5, "isSoldOften", "()Z"⟩
abbrev cX5_userOn : ByteArray := prog_7_method_4_code
def yX5_userOn : MethodName := ⟨RX5, "userOn", "(I)LSkinLeague$Player;"⟩
abbrev cX5_sellTo : ByteArray := prog_7_method_5_code
def yX5_sellTo : MethodName := ⟨RX5, "sellTo", "(LSkinLeague$Player;I)Z"⟩
abbrev cX5_passTo : ByteArray := prog_7_method_6_code
def yX5_passTo : MethodName := ⟨RX5, "passTo", "(LSkinLeague$Player;)V"⟩
abbrev cX5_undoSales : ByteArray := prog_7_method_7_code
def yX5_undoSales : MethodName := ⟨RX5, "undoSales", "()V"⟩
abbrev cX5_pay : ByteArray := prog_7_method_8_code
def yX5_pay : MethodName := ⟨RX5, "pay", "(LSkinLeague$Player;LSkinLeague$Player;I)V"⟩
abbrev cX5_writeLabel : ByteArray := prog_7_method_9_code
def yX5_writeLabel : MethodName := ⟨RX5, "writeLabel", "(Ljava/lang/StringBuilder;)V"⟩
def RX6 : String := "SkinLeague"
def TX6 : u_T := fun k => match k with
  | 0 => ("SkinLeague", "players", "[LSkinLeague$Player;", true)
  | 1 => ("SkinLeague", "matches", "[LSkinLeague$Match;", true)
  | 2 => ("SkinLeague", "seasons", "[LSkinLeague$Season;", true)
  | 3 => ("SkinLeague", "skins", "[LSkinLeague$Skin;", true)
  | 4 => ("SkinLeague", "regions", "[LSkinLeague$Region;", true)
  | 5 => ("SkinLeague", "playerCount", "I", false)
  | 6 => ("SkinLeague", "matchCount", "I", false)
  | 7 => ("SkinLeague", "skinCount", "I", false)
  | 8 => ("SkinLeague", "today", "I", false)
  | _ => ("SkinLeague", "current", "LSkinLeague$Season;", false)
def tyX6 : Nat → FieldType := fun k => match k with
  | 0 => .array (.object "SkinLeague$Player")
  | 1 => .array (.object "SkinLeague$Match")
  | 2 => .array (.object "SkinLeague$Season")
  | 3 => .array (.object "SkinLeague$Skin")
  | 4 => .array (.object "SkinLeague$Region")
  | 5 => .int
  | 6 => .int
  | 7 => .int
  | 8 => .int
  | _ => .object "SkinLeague$Season"
abbrev wsX60 : List Cond := u_ws RX6 TX6 10
theorem nmX6 : ∀ a, a < 10 → ∀ b, b < 10 → a ≠ b → (TX6 a).2.1 ≠ (TX6 b).2.1 := by decide +kernel
theorem tyX6_ok : ∀ k, k < 10 → parseFieldDescriptor (TX6 k).2.2.1 = some (tyX6 k) := by decide +kernel
abbrev cX6_init : ByteArray := prog_1_method_1_code
def yX6_init : MethodName := ⟨RX6, "<init>", "()V"⟩
abbrev cX6_player : ByteArray := prog_1_method_2_code
def yX6_player : MethodName := ⟨RX6, "player", "()I"⟩
abbrev cX6_room : ByteArray := prog_1_method_3_code
def yX6_room : MethodName := ⟨RX6, "room", "(II)I"⟩
abbrev cX6_match : ByteArray := prog_1_method_4_code
def yX6_match : MethodName := ⟨RX6, "match", "(III)I"⟩
abbrev cX6_end : ByteArray := prog_1_method_5_code
def yX6_end : MethodName := ⟨RX6, "end", "()I"⟩
abbrev cX6_sell : ByteArray := prog_1_method_6_code
def yX6_sell : MethodName := ⟨RX6, "sell", "(III)Z"⟩
abbrev cX6_lend : ByteArray := prog_1_method_7_code
def yX6_lend : MethodName := ⟨RX6, "lend", "(III)I"⟩
abbrev cX6_proof : ByteArray := prog_1_method_8_code
def yX6_proof : MethodName := ⟨RX6, "proof", "(II)I"⟩
abbrev cX6_clear : ByteArray := prog_1_method_9_code
def yX6_clear : MethodName := ⟨RX6, "clear", "(I)I"⟩
abbrev cX6_ban : ByteArray := prog_1_method_10_code
def yX6_ban : MethodName := ⟨RX6, "ban", "(II)I"⟩
abbrev cX6_pass : ByteArray := prog_1_method_11_code
def yX6_pass : MethodName := ⟨RX6, "pass", "(I)I"⟩
abbrev cX6_stands : ByteArray := prog_1_method_12_code
def yX6_stands : MethodName := ⟨RX6, "stands", "(I)Z"⟩
abbrev cX6_ranked : ByteArray := prog_1_method_13_code
def yX6_ranked : MethodName := ⟨RX6, "ranked", "(III)I"⟩
abbrev cX6_skinOf : ByteArray := prog_1_method_14_code
def yX6_skinOf : MethodName := ⟨RX6, "skinOf", "(II)I"⟩
abbrev cX6_money : ByteArray := prog_1_method_15_code
def yX6_money : MethodName := ⟨RX6, "money", "(I)I"⟩
abbrev cX6_label : ByteArray := prog_1_method_16_code
def yX6_label : MethodName := ⟨RX6, "label", "(II)C"⟩
abbrev cX6_findPlayer : ByteArray := prog_1_method_17_code
def yX6_findPlayer : MethodName := ⟨RX6, "findPlayer", "(I)LSkinLeague$Player;"⟩
abbrev cX6_playerAt : ByteArray := prog_1_method_18_code
def yX6_playerAt : MethodName := ⟨RX6, "playerAt", "(I)LSkinLeague$Player;"⟩
abbrev cX6_regionAt : ByteArray := prog_1_method_19_code
def yX6_regionAt : MethodName := ⟨RX6, "regionAt", "(I)LSkinLeague$Region;"⟩
abbrev cX6_matchAt : ByteArray := prog_1_method_20_code
def yX6_matchAt : MethodName := ⟨RX6, "matchAt", "(I)LSkinLeague$Match;"⟩
abbrev cX6_seasonAt : ByteArray := prog_1_method_21_code
def yX6_seasonAt : MethodName := ⟨RX6, "seasonAt", "(I)LSkinLeague$Season;"⟩
abbrev cX6_skinAt : ByteArray := prog_1_method_22_code
def yX6_skinAt : MethodName := ⟨RX6, "skinAt", "(I)LSkinLeague$Skin;"⟩
abbrev cX6_numberOf : ByteArray := prog_1_method_23_code
def yX6_numberOf : MethodName := ⟨RX6, "numberOf", "(LSkinLeague$Player;)I"⟩
abbrev cX6_awardPrizes : ByteArray := prog_1_method_24_code
def yX6_awardPrizes : MethodName := ⟨RX6, "awardPrizes", "()I"⟩
abbrev cX6_mayDeal : ByteArray := prog_1_method_25_code
def yX6_mayDeal : MethodName := ⟨RX6, "mayDeal", "(LSkinLeague$Player;LSkinLeague$Player;)Z"⟩
abbrev cX6_findHeirsAnew : ByteArray := prog_1_method_26_code
def yX6_findHeirsAnew : MethodName := ⟨RX6, "findHeirsAnew", "()V"⟩
abbrev cX6_countPointsAnew : ByteArray := prog_1_method_27_code
def yX6_countPointsAnew : MethodName := ⟨RX6, "countPointsAnew", "()V"⟩
abbrev cX6_countFallenMatches : ByteArray := prog_1_method_28_code
def yX6_countFallenMatches : MethodName := ⟨RX6, "countFallenMatches", "()I"⟩
def RJ5 : String := "java/lang/AbstractStringBuilder"
def TJ5 : u_T := fun k => match k with
  | _ => ("", "", "", false)
def tyJ5 : Nat → FieldType := fun k => match k with
  | _ => .int
abbrev wsJ50 : List Cond := u_ws RJ5 TJ5 0
theorem nmJ5 : ∀ a, a < 0 → ∀ b, b < 0 → a ≠ b → (TJ5 a).2.1 ≠ (TJ5 b).2.1 := by decide +kernel
theorem tyJ5_ok : ∀ k, k < 0 → parseFieldDescriptor (TJ5 k).2.2.1 = some (tyJ5 k) := by decide +kernel
abbrev cJ5_init_d00df : ByteArray := prog_10_method_2_code
def yJ5_init_d00df : MethodName := ⟨RJ5, "<init>", "(I)V"⟩
abbrev cJ5_length_8abf5 : ByteArray := prog_10_method_6_code
def yJ5_length_8abf5 : MethodName := ⟨RJ5, "length", "()I"⟩
abbrev cJ5_ensureCapacityInternal_d00df : ByteArray := prog_10_method_9_code
def yJ5_ensureCapacityInternal_d00df : MethodName := ⟨RJ5, "ensureCapacityInternal", "(I)V"⟩
abbrev cJ5_newCapacity_0f7a4 : ByteArray := prog_10_method_10_code
def yJ5_newCapacity_0f7a4 : MethodName := ⟨RJ5, "newCapacity", "(I)I"⟩
abbrev cJ5_inflate_da8c8 : ByteArray := prog_10_method_11_code
def yJ5_inflate_da8c8 : MethodName := ⟨RJ5, "inflate", "()V"⟩
abbrev cJ5_charAt_5068e : ByteArray := prog_10_method_14_code
def yJ5_charAt_5068e : MethodName := ⟨RJ5, "charAt", "(I)C"⟩
abbrev cJ5_append_3fe6f : ByteArray := prog_10_method_31_code
def yJ5_append_3fe6f : MethodName := ⟨RJ5, "append", "(C)Ljava/lang/AbstractStringBuilder;"⟩
abbrev cJ5_append_c97b9 : ByteArray := prog_10_method_32_code
def yJ5_append_c97b9 : MethodName := ⟨RJ5, "append", "(I)Ljava/lang/AbstractStringBuilder;"⟩
abbrev cJ5_isLatin1_aae02 : ByteArray := prog_10_method_68_code
def yJ5_isLatin1_aae02 : MethodName := ⟨RJ5, "isLatin1", "()Z"⟩
def RJx8e188 : String := "java/lang/Cloneable"
def TJx8e188 : u_T := fun k => match k with
  | _ => ("", "", "", false)
def tyJx8e188 : Nat → FieldType := fun k => match k with
  | _ => .int
abbrev wsJx8e1880 : List Cond := u_ws RJx8e188 TJx8e188 0
theorem nmJx8e188 : ∀ a, a < 0 → ∀ b, b < 0 → a ≠ b → (TJx8e188 a).2.1 ≠ (TJx8e188 b).2.1 := by decide +kernel
theorem tyJx8e188_ok : ∀ k, k < 0 → parseFieldDescriptor (TJx8e188 k).2.2.1 = some (tyJx8e188 k) := by decide +kernel
def RJ6 : String := "java/lang/Integer"
def TJ6 : u_T := fun k => match k with
  | _ => ("", "", "", false)
def tyJ6 : Nat → FieldType := fun k => match k with
  | _ => .int
abbrev wsJ60 : List Cond := u_ws RJ6 TJ6 0
theorem nmJ6 : ∀ a, a < 0 → ∀ b, b < 0 → a ≠ b → (TJ6 a).2.1 ≠ (TJ6 b).2.1 := by decide +kernel
theorem tyJ6_ok : ∀ k, k < 0 → parseFieldDescriptor (TJ6 k).2.2.1 = some (tyJ6 k) := by decide +kernel
abbrev cJ6_getChars_ba4f3 : ByteArray := prog_16_method_12_code
def yJ6_getChars_ba4f3 : MethodName := ⟨RJ6, "getChars", "(II[B)I"⟩
abbrev cJ6_stringSize_0f7a4 : ByteArray := prog_16_method_13_code
def yJ6_stringSize_0f7a4 : MethodName := ⟨RJ6, "stringSize", "(I)I"⟩
def RJ9 : String := "java/lang/Math"
def TJ9 : u_T := fun k => match k with
  | _ => ("", "", "", false)
def tyJ9 : Nat → FieldType := fun k => match k with
  | _ => .int
abbrev wsJ90 : List Cond := u_ws RJ9 TJ9 0
theorem nmJ9 : ∀ a, a < 0 → ∀ b, b < 0 → a ≠ b → (TJ9 a).2.1 ≠ (TJ9 b).2.1 := by decide +kernel
theorem tyJ9_ok : ∀ k, k < 0 → parseFieldDescriptor (TJ9 k).2.2.1 = some (tyJ9 k) := by decide +kernel
abbrev cJ9_max_7cf53 : ByteArray := prog_17_method_65_code
def yJ9_max_7cf53 : MethodName := ⟨RJ9, "max", "(II)I"⟩
abbrev cJ9_min_7cf53 : ByteArray := prog_17_method_69_code
def yJ9_min_7cf53 : MethodName := ⟨RJ9, "min", "(II)I"⟩
def RJ0 : String := "java/lang/String"
def TJ0 : u_T := fun k => match k with
  | _ => ("", "", "", false)
def tyJ0 : Nat → FieldType := fun k => match k with
  | _ => .int
abbrev wsJ00 : List Cond := u_ws RJ0 TJ0 0
theorem nmJ0 : ∀ a, a < 0 → ∀ b, b < 0 → a ≠ b → (TJ0 a).2.1 ≠ (TJ0 b).2.1 := by decide +kernel
theorem tyJ0_ok : ∀ k, k < 0 → parseFieldDescriptor (TJ0 k).2.2.1 = some (tyJ0 k) := by decide +kernel
abbrev cJ0_checkIndex_df160 : ByteArray := prog_19_method_155_code
def yJ0_checkIndex_df160 : MethodName := ⟨RJ0, "checkIndex", "(II)V"⟩
abbrev cJ0_checkBoundsOffCount_cabcc : ByteArray := prog_19_method_157_code
def yJ0_checkBoundsOffCount_cabcc : MethodName := ⟨RJ0, "checkBoundsOffCount", "(III)I"⟩
abbrev cJ0_checkBoundsBeginEnd_23922 : ByteArray := prog_19_method_158_code
def yJ0_checkBoundsBeginEnd_23922 : MethodName := ⟨RJ0, "checkBoundsBeginEnd", "(III)V"⟩
def RJ4 : String := "java/lang/StringBuilder"
def TJ4 : u_T := fun k => match k with
  | 0 => ("java/lang/AbstractStringBuilder", "value", "[B", false)
  | 1 => ("java/lang/AbstractStringBuilder", "coder", "B", false)
  | 2 => ("java/lang/AbstractStringBuilder", "maybeLatin1", "Z", false)
  | _ => ("java/lang/AbstractStringBuilder", "count", "I", false)
def tyJ4 : Nat → FieldType := fun k => match k with
  | 0 => .array .byte
  | 1 => .byte
  | 2 => .boolean
  | _ => .int
abbrev wsJ40 : List Cond := u_ws RJ4 TJ4 4
theorem nmJ4 : ∀ a, a < 4 → ∀ b, b < 4 → a ≠ b → (TJ4 a).2.1 ≠ (TJ4 b).2.1 := by decide +kernel
theorem tyJ4_ok : ∀ k, k < 4 → parseFieldDescriptor (TJ4 k).2.2.1 = some (tyJ4 k) := by decide +kernel
abbrev cJ4_init_da8c8 : ByteArray := prog_20_method_1_code
def yJ4_init_da8c8 : MethodName := ⟨RJ4, "<init>", "()V"⟩
abbrev cJ4_append_cf468 : ByteArray := prog_20_method_14_code
def yJ4_append_cf468 : MethodName := ⟨RJ4, "append", "(C)Ljava/lang/StringBuilder;"⟩
abbrev cJ4_append_bf812 : ByteArray := prog_20_method_15_code
def yJ4_append_bf812 : MethodName := ⟨RJ4, "append", "(I)Ljava/lang/StringBuilder;"⟩
abbrev cJ4_charAt_5068e : ByteArray := prog_20_method_88_code
def yJ4_charAt_5068e : MethodName := ⟨RJ4, "charAt", "(I)C"⟩
abbrev cJ4_length_8abf5 : ByteArray := prog_20_method_93_code
def yJ4_length_8abf5 : MethodName := ⟨RJ4, "length", "()I"⟩
def RJ1 : String := "java/lang/StringLatin1"
def TJ1 : u_T := fun k => match k with
  | _ => ("", "", "", false)
def tyJ1 : Nat → FieldType := fun k => match k with
  | _ => .int
abbrev wsJ10 : List Cond := u_ws RJ1 TJ1 0
theorem nmJ1 : ∀ a, a < 0 → ∀ b, b < 0 → a ≠ b → (TJ1 a).2.1 ≠ (TJ1 b).2.1 := by decide +kernel
theorem tyJ1_ok : ∀ k, k < 0 → parseFieldDescriptor (TJ1 k).2.2.1 = some (tyJ1 k) := by decide +kernel
abbrev cJ1_canEncode_fc78d : ByteArray := prog_21_method_3_code
def yJ1_canEncode_fc78d : MethodName := ⟨RJ1, "canEncode", "(C)Z"⟩
abbrev cJ1_inflate_0e8fd : ByteArray := prog_21_method_50_code
def yJ1_inflate_0e8fd : MethodName := ⟨RJ1, "inflate", "([BI[BII)V"⟩
def RJ2 : String := "java/lang/StringUTF16"
def TJ2 : u_T := fun k => match k with
  | _ => ("", "", "", false)
def tyJ2 : Nat → FieldType := fun k => match k with
  | _ => .int
abbrev wsJ20 : List Cond := u_ws RJ2 TJ2 0
theorem nmJ2 : ∀ a, a < 0 → ∀ b, b < 0 → a ≠ b → (TJ2 a).2.1 ≠ (TJ2 b).2.1 := by decide +kernel
theorem tyJ2_ok : ∀ k, k < 0 → parseFieldDescriptor (TJ2 k).2.2.1 = some (tyJ2 k) := by decide +kernel
abbrev cJ2_newBytesFor_77867 : ByteArray := prog_22_method_2_code
def yJ2_newBytesFor_77867 : MethodName := ⟨RJ2, "newBytesFor", "(I)[B"⟩
abbrev cJ2_newBytesLength_0f7a4 : ByteArray := prog_22_method_3_code
def yJ2_newBytesLength_0f7a4 : MethodName := ⟨RJ2, "newBytesLength", "(I)I"⟩
abbrev cJ2_putChar_b72d1 : ByteArray := prog_22_method_4_code
def yJ2_putChar_b72d1 : MethodName := ⟨RJ2, "putChar", "([BII)V"⟩
abbrev cJ2_getChar_3b067 : ByteArray := prog_22_method_5_code
def yJ2_getChar_3b067 : MethodName := ⟨RJ2, "getChar", "([BI)C"⟩
abbrev cJ2_length_9d52b : ByteArray := prog_22_method_6_code
def yJ2_length_9d52b : MethodName := ⟨RJ2, "length", "([B)I"⟩
abbrev cJ2_putCharSB_b72d1 : ByteArray := prog_22_method_71_code
def yJ2_putCharSB_b72d1 : MethodName := ⟨RJ2, "putCharSB", "([BII)V"⟩
abbrev cJ2_getChars_46870 : ByteArray := prog_22_method_77_code
def yJ2_getChars_46870 : MethodName := ⟨RJ2, "getChars", "(III[B)I"⟩
abbrev cJ2_inflate_0e8fd : ByteArray := prog_22_method_86_code
def yJ2_inflate_0e8fd : MethodName := ⟨RJ2, "inflate", "([BI[BII)V"⟩
abbrev cJ2_getChars_ba4f3 : ByteArray := prog_22_method_89_code
def yJ2_getChars_ba4f3 : MethodName := ⟨RJ2, "getChars", "(II[B)I"⟩
abbrev cJ2_checkIndex_2214a : ByteArray := prog_22_method_91_code
def yJ2_checkIndex_2214a : MethodName := ⟨RJ2, "checkIndex", "(I[B)V"⟩
abbrev cJ2_checkBoundsBeginEnd_d044e : ByteArray := prog_22_method_93_code
def yJ2_checkBoundsBeginEnd_d044e : MethodName := ⟨RJ2, "checkBoundsBeginEnd", "(II[B)V"⟩
abbrev cJ2_checkBoundsOffCount_d044e : ByteArray := prog_22_method_94_code
def yJ2_checkBoundsOffCount_d044e : MethodName := ⟨RJ2, "checkBoundsOffCount", "(II[B)V"⟩
def RJ10 : String := "java/lang/System"
def TJ10 : u_T := fun k => match k with
  | _ => ("", "", "", false)
def tyJ10 : Nat → FieldType := fun k => match k with
  | _ => .int
abbrev wsJ100 : List Cond := u_ws RJ10 TJ10 0
theorem nmJ10 : ∀ a, a < 0 → ∀ b, b < 0 → a ≠ b → (TJ10 a).2.1 ≠ (TJ10 b).2.1 := by decide +kernel
theorem tyJ10_ok : ∀ k, k < 0 → parseFieldDescriptor (TJ10 k).2.2.1 = some (tyJ10 k) := by decide +kernel
def RJ7 : String := "java/util/Arrays"
def TJ7 : u_T := fun k => match k with
  | _ => ("", "", "", false)
def tyJ7 : Nat → FieldType := fun k => match k with
  | _ => .int
abbrev wsJ70 : List Cond := u_ws RJ7 TJ7 0
theorem nmJ7 : ∀ a, a < 0 → ∀ b, b < 0 → a ≠ b → (TJ7 a).2.1 ≠ (TJ7 b).2.1 := by decide +kernel
theorem tyJ7_ok : ∀ k, k < 0 → parseFieldDescriptor (TJ7 k).2.2.1 = some (tyJ7 k) := by decide +kernel
abbrev cJ7_copyOf_9075b : ByteArray := prog_25_method_121_code
def yJ7_copyOf_9075b : MethodName := ⟨RJ7, "copyOf", "([BI)[B"⟩
def RJ8 : String := "jdk/internal/util/ArraysSupport"
def TJ8 : u_T := fun k => match k with
  | _ => ("", "", "", false)
def tyJ8 : Nat → FieldType := fun k => match k with
  | _ => .int
abbrev wsJ80 : List Cond := u_ws RJ8 TJ8 0
theorem nmJ8 : ∀ a, a < 0 → ∀ b, b < 0 → a ≠ b → (TJ8 a).2.1 ≠ (TJ8 b).2.1 := by decide +kernel
theorem tyJ8_ok : ∀ k, k < 0 → parseFieldDescriptor (TJ8 k).2.2.1 = some (tyJ8 k) := by decide +kernel
abbrev cJ8_newLength_cabcc : ByteArray := prog_26_method_27_code
def yJ8_newLength_cabcc : MethodName := ⟨RJ8, "newLength", "(III)I"⟩
abbrev cJ8_hugeLength_7cf53 : ByteArray := prog_26_method_28_code
def yJ8_hugeLength_7cf53 : MethodName := ⟨RJ8, "hugeLength", "(II)I"⟩
def RJ3 : String := "jdk/internal/util/Preconditions"
def TJ3 : u_T := fun k => match k with
  | _ => ("", "", "", false)
def tyJ3 : Nat → FieldType := fun k => match k with
  | _ => .int
abbrev wsJ30 : List Cond := u_ws RJ3 TJ3 0
theorem nmJ3 : ∀ a, a < 0 → ∀ b, b < 0 → a ≠ b → (TJ3 a).2.1 ≠ (TJ3 b).2.1 := by decide +kernel
theorem tyJ3_ok : ∀ k, k < 0 → parseFieldDescriptor (TJ3 k).2.2.1 = some (tyJ3 k) := by decide +kernel
abbrev cJ3_checkIndex_8e157 : ByteArray := prog_27_method_11_code
def yJ3_checkIndex_8e157 : MethodName := ⟨RJ3, "checkIndex", "(IILjava/util/function/BiFunction;)I"⟩
abbrev cJ3_checkFromToIndex_8c36e : ByteArray := prog_27_method_12_code
def yJ3_checkFromToIndex_8c36e : MethodName := ⟨RJ3, "checkFromToIndex", "(IIILjava/util/function/BiFunction;)I"⟩
abbrev cJ3_checkFromIndexSize_8c36e : ByteArray := prog_27_method_13_code
def yJ3_checkFromIndexSize_8c36e : MethodName := ⟨RJ3, "checkFromIndexSize", "(IIILjava/util/function/BiFunction;)I"⟩
def RL : String := "SkinLeagueLaw"
abbrev cL_part : ByteArray := method_2_code
def yL_part : MethodName := ⟨RL, "part", "([III)I"⟩
abbrev cL_does : ByteArray := method_3_code
def yL_does : MethodName := ⟨RL, "does", "(LSkinLeague;IIII)I"⟩
abbrev cL_isGood : ByteArray := method_4_code
def yL_isGood : MethodName := ⟨RL, "isGood", "([I[I[II)Z"⟩
abbrev cL_points : ByteArray := method_5_code
def yL_points : MethodName := ⟨RL, "points", "([I[I[I[III)I"⟩
abbrev cL_many : ByteArray := method_6_code
def yL_many : MethodName := ⟨RL, "many", "([I[I[I[III)I"⟩
abbrev cL_weight : ByteArray := method_7_code
def yL_weight : MethodName := ⟨RL, "weight", "([I[I[I[III)I"⟩
abbrev cL_who : ByteArray := method_8_code
def yL_who : MethodName := ⟨RL, "who", "([I[I[I[III)I"⟩
abbrev cL_pays : ByteArray := method_9_code
def yL_pays : MethodName := ⟨RL, "pays", "([IIII)V"⟩
abbrev cL_looks : ByteArray := method_10_code
def yL_looks : MethodName := ⟨RL, "looks", "([I[I[I[I[I[I[I[I[I)V"⟩
abbrev cL_isSo : ByteArray := method_11_code
def yL_isSo : MethodName := ⟨RL, "isSo", "(LSkinLeague;[I[I[I[I[I[I[I[I[II)Z"⟩
abbrev cL_isNumber : ByteArray := method_12_code
def yL_isNumber : MethodName := ⟨RL, "isNumber", "(LSkinLeague;III)Z"⟩
abbrev cL_isLabel : ByteArray := method_13_code
def yL_isLabel : MethodName := ⟨RL, "isLabel", "(LSkinLeague;[I[II)Z"⟩
abbrev cL_isBanned : ByteArray := method_14_code
def yL_isBanned : MethodName := ⟨RL, "isBanned", "([I[II)Z"⟩
abbrev cL_isPlay : ByteArray := method_15_code
def yL_isPlay : MethodName := ⟨RL, "isPlay", "(LSkinLeague;[I[I[I[III)Z"⟩
abbrev cL_isSkin : ByteArray := method_16_code
def yL_isSkin : MethodName := ⟨RL, "isSkin", "(LSkinLeague;[I[I[I[I[I[I[IZII)Z"⟩
abbrev cL_law : ByteArray := code
def yL_law : MethodName := ⟨RL, "law", "([I)Z"⟩
abbrev vwCl : List vw_C := [(RJ4, TJ4, 4), (RX0, TX0, 4), (RX1, TX1, 4), (RX2, TX2, 2), (RX3, TX3, 3), (RX4, TX4, 3), (RX5, TX5, 10), (RX6, TX6, 10)]
