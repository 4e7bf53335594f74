-- names, fields (printed by program), tables of the pools, and an abstract machine over them
def RX0 : String := "TurnedStatues$Course"
def RX1 : String := "TurnedStatues$Law"
def RX2 : String := "TurnedStatues$LawReader"
def RX3 : String := "TurnedStatues$Past"
def RX4 : String := "TurnedStatues$Reader"
def RX5 : String := "TurnedStatues$Search"
def RX6 : String := "TurnedStatues$Square"
def RX7 : String := "TurnedStatues$Stand"
def RX8 : String := "TurnedStatues$Tokens"
def RX9 : String := "TurnedStatues$Tray"
def RX10 : String := "TurnedStatues$Walks"
def RX11 : String := "TurnedStatues"
def RX12 : String := "TurnedStatuesModel"
def RJ6 : String := "java/lang/Integer"
def RJ13 : String := "java/lang/Long"
def RJ9 : String := "java/lang/Math"
def RJ0 : String := "java/lang/String"
def RJ1 : String := "java/lang/StringLatin1"
def RJ10 : String := "java/lang/System"
def RJ3 : String := "jdk/internal/util/Preconditions"
def RL : String := "TurnedStatuesLaw"
def TX1 : u_T := fun k => match k with
  | 0 => ("TurnedStatues$Law", "code", "[I", true)
  | 1 => ("TurnedStatues$Law", "pile", "[I", true)
  | 2 => ("TurnedStatues$Law", "given", "[I", true)
  | _ => ("TurnedStatues$Law", "length", "I", false)
def tyX1 : Nat → FieldType := fun k => match k with
  | 0 => .array .int
  | 1 => .array .int
  | 2 => .array .int
  | _ => .int
def TX2 : u_T := fun k => match k with
  | 0 => ("TurnedStatues$LawReader", "waiting", "[I", true)
  | 1 => ("TurnedStatues$LawReader", "held", "I", false)
  | 2 => ("TurnedStatues$LawReader", "nested", "I", false)
  | 3 => ("TurnedStatues$LawReader", "openSums", "I", false)
  | 4 => ("TurnedStatues$LawReader", "openTruths", "I", false)
  | _ => ("TurnedStatues$LawReader", "compared", "Z", false)
def tyX2 : Nat → FieldType := fun k => match k with
  | 0 => .array .int
  | 1 => .int
  | 2 => .int
  | 3 => .int
  | 4 => .int
  | _ => .boolean
def TX3 : u_T := fun k => match k with
  | 0 => ("TurnedStatues$Past", "stands", "[LTurnedStatues$Stand;", true)
  | 1 => ("TurnedStatues$Past", "eldest", "I", false)
  | _ => ("TurnedStatues$Past", "held", "I", false)
def tyX3 : Nat → FieldType := fun k => match k with
  | 0 => .array (.object "TurnedStatues$Stand")
  | 1 => .int
  | _ => .int
def TX4 : u_T := fun k => match k with
  | 0 => ("TurnedStatues$Reader", "tokens", "LTurnedStatues$Tokens;", true)
  | 1 => ("TurnedStatues$Reader", "lawReader", "LTurnedStatues$LawReader;", true)
  | 2 => ("TurnedStatues$Reader", "square", "LTurnedStatues$Square;", true)
  | 3 => ("TurnedStatues$Reader", "stand", "LTurnedStatues$Stand;", true)
  | 4 => ("TurnedStatues$Reader", "number", "I", false)
  | _ => ("TurnedStatues$Reader", "spot", "I", false)
def tyX4 : Nat → FieldType := fun k => match k with
  | 0 => .object "TurnedStatues$Tokens"
  | 1 => .object "TurnedStatues$LawReader"
  | 2 => .object "TurnedStatues$Square"
  | 3 => .object "TurnedStatues$Stand"
  | 4 => .int
  | _ => .int
def TX5 : u_T := fun k => match k with
  | 0 => ("TurnedStatues$Search", "trial", "LTurnedStatues$Stand;", true)
  | 1 => ("TurnedStatues$Search", "found", "I", false)
  | 2 => ("TurnedStatues$Search", "firstWriter", "I", false)
  | 3 => ("TurnedStatues$Search", "firstReader", "I", false)
  | 4 => ("TurnedStatues$Search", "sameWriter", "Z", false)
  | _ => ("TurnedStatues$Search", "sameReader", "Z", false)
def tyX5 : Nat → FieldType := fun k => match k with
  | 0 => .object "TurnedStatues$Stand"
  | 1 => .int
  | 2 => .int
  | 3 => .int
  | 4 => .boolean
  | _ => .boolean
def TX6 : u_T := fun k => match k with
  | 0 => ("TurnedStatues$Square", "law", "LTurnedStatues$Law;", true)
  | 1 => ("TurnedStatues$Square", "letterNight", "[I", true)
  | 2 => ("TurnedStatues$Square", "letterFrom", "[I", true)
  | 3 => ("TurnedStatues$Square", "letterTo", "[I", true)
  | 4 => ("TurnedStatues$Square", "snowNight", "[I", true)
  | 5 => ("TurnedStatues$Square", "snowFor", "[I", true)
  | 6 => ("TurnedStatues$Square", "wide", "I", false)
  | 7 => ("TurnedStatues$Square", "high", "I", false)
  | 8 => ("TurnedStatues$Square", "statues", "I", false)
  | 9 => ("TurnedStatues$Square", "lines", "I", false)
  | 10 => ("TurnedStatues$Square", "letters", "I", false)
  | 11 => ("TurnedStatues$Square", "snows", "I", false)
  | 12 => ("TurnedStatues$Square", "walls", "J", false)
  | _ => ("TurnedStatues$Square", "fountains", "J", false)
def tyX6 : Nat → FieldType := fun k => match k with
  | 0 => .object "TurnedStatues$Law"
  | 1 => .array .int
  | 2 => .array .int
  | 3 => .array .int
  | 4 => .array .int
  | 5 => .array .int
  | 6 => .int
  | 7 => .int
  | 8 => .int
  | 9 => .int
  | 10 => .int
  | 11 => .int
  | 12 => .long
  | _ => .long
def TX7 : u_T := fun k => match k with
  | 0 => ("TurnedStatues$Stand", "place", "[I", true)
  | 1 => ("TurnedStatues$Stand", "dir", "[I", true)
  | 2 => ("TurnedStatues$Stand", "foe", "[I", true)
  | _ => ("TurnedStatues$Stand", "night", "I", false)
def tyX7 : Nat → FieldType := fun k => match k with
  | 0 => .array .int
  | 1 => .array .int
  | 2 => .array .int
  | _ => .int
def TX8 : u_T := fun k => match k with
  | 0 => ("TurnedStatues$Tokens", "tape", "[B", true)
  | 1 => ("TurnedStatues$Tokens", "length", "I", false)
  | 2 => ("TurnedStatues$Tokens", "at", "I", false)
  | 3 => ("TurnedStatues$Tokens", "start", "I", false)
  | 4 => ("TurnedStatues$Tokens", "token", "I", false)
  | 5 => ("TurnedStatues$Tokens", "value", "I", false)
  | 6 => ("TurnedStatues$Tokens", "fault", "I", false)
  | _ => ("TurnedStatues$Tokens", "place", "I", false)
def tyX8 : Nat → FieldType := fun k => match k with
  | 0 => .array .byte
  | 1 => .int
  | 2 => .int
  | 3 => .int
  | 4 => .int
  | 5 => .int
  | 6 => .int
  | _ => .int
def TX9 : u_T := fun k => match k with
  | 0 => ("TurnedStatues$Tray", "cells", "[J", true)
  | 1 => ("TurnedStatues$Tray", "there", "Z", false)
  | 2 => ("TurnedStatues$Tray", "sort", "I", false)
  | _ => ("TurnedStatues$Tray", "size", "I", false)
def tyX9 : Nat → FieldType := fun k => match k with
  | 0 => .array .long
  | 1 => .boolean
  | 2 => .int
  | _ => .int
def TX10 : u_T := fun k => match k with
  | 0 => ("TurnedStatues$Walks", "trial", "LTurnedStatues$Stand;", true)
  | 1 => ("TurnedStatues$Walks", "open", "[J", true)
  | 2 => ("TurnedStatues$Walks", "hopeful", "[J", true)
  | 3 => ("TurnedStatues$Walks", "many", "[J", true)
  | 4 => ("TurnedStatues$Walks", "next", "[J", true)
  | 5 => ("TurnedStatues$Walks", "firstColumn", "J", false)
  | 6 => ("TurnedStatues$Walks", "lastColumn", "J", false)
  | _ => ("TurnedStatues$Walks", "all", "J", false)
def tyX10 : Nat → FieldType := fun k => match k with
  | 0 => .object "TurnedStatues$Stand"
  | 1 => .array .long
  | 2 => .array .long
  | 3 => .array .long
  | 4 => .array .long
  | 5 => .long
  | 6 => .long
  | _ => .long
def TX11 : u_T := fun k => match k with
  | 0 => ("TurnedStatues", "told", "LTurnedStatues$Square;", true)
  | 1 => ("TurnedStatues", "now", "LTurnedStatues$Stand;", true)
  | 2 => ("TurnedStatues", "before", "LTurnedStatues$Stand;", true)
  | 3 => ("TurnedStatues", "trial", "LTurnedStatues$Stand;", true)
  | 4 => ("TurnedStatues", "past", "LTurnedStatues$Past;", true)
  | 5 => ("TurnedStatues", "search", "LTurnedStatues$Search;", true)
  | 6 => ("TurnedStatues", "walks", "LTurnedStatues$Walks;", true)
  | 7 => ("TurnedStatues", "trays", "[LTurnedStatues$Tray;", true)
  | 8 => ("TurnedStatues", "imageSquares", "[LTurnedStatues$Square;", true)
  | 9 => ("TurnedStatues", "imageStands", "[LTurnedStatues$Stand;", true)
  | 10 => ("TurnedStatues", "imageMade", "[Z", true)
  | 11 => ("TurnedStatues", "reader", "LTurnedStatues$Reader;", true)
  | 12 => ("TurnedStatues", "taped", "I", false)
  | 13 => ("TurnedStatues", "latestFault", "I", false)
  | _ => ("TurnedStatues", "latestPlace", "I", false)
def tyX11 : Nat → FieldType := fun k => match k with
  | 0 => .object "TurnedStatues$Square"
  | 1 => .object "TurnedStatues$Stand"
  | 2 => .object "TurnedStatues$Stand"
  | 3 => .object "TurnedStatues$Stand"
  | 4 => .object "TurnedStatues$Past"
  | 5 => .object "TurnedStatues$Search"
  | 6 => .object "TurnedStatues$Walks"
  | 7 => .array (.object "TurnedStatues$Tray")
  | 8 => .array (.object "TurnedStatues$Square")
  | 9 => .array (.object "TurnedStatues$Stand")
  | 10 => .array .boolean
  | 11 => .object "TurnedStatues$Reader"
  | 12 => .int
  | 13 => .int
  | _ => .int
def TX12 : u_T := fun k => match k with
  | 0 => ("TurnedStatuesModel", "thrown", "I", false)
  | 1 => ("TurnedStatuesModel", "all", "[I", true)
  | 2 => ("TurnedStatuesModel", "hasImage", "[Z", true)
  | 3 => ("TurnedStatuesModel", "tape", "[I", true)
  | 4 => ("TurnedStatuesModel", "fresh", "[I", true)
  | 5 => ("TurnedStatuesModel", "taped", "I", false)
  | 6 => ("TurnedStatuesModel", "at", "I", false)
  | 7 => ("TurnedStatuesModel", "behind", "I", false)
  | 8 => ("TurnedStatuesModel", "size", "I", false)
  | 9 => ("TurnedStatuesModel", "kind", "I", false)
  | 10 => ("TurnedStatuesModel", "number", "I", false)
  | 11 => ("TurnedStatuesModel", "wrong", "I", false)
  | 12 => ("TurnedStatuesModel", "wrongAt", "I", false)
  | 13 => ("TurnedStatuesModel", "faultKind", "I", false)
  | 14 => ("TurnedStatuesModel", "faultPlace", "I", false)
  | 15 => ("TurnedStatuesModel", "ended", "I", false)
  | 16 => ("TurnedStatuesModel", "reckoned", "[I", true)
  | 17 => ("TurnedStatuesModel", "turned", "I", false)
  | 18 => ("TurnedStatuesModel", "came", "I", false)
  | 19 => ("TurnedStatuesModel", "was", "[I", true)
  | 20 => ("TurnedStatuesModel", "ahead", "[I", true)
  | 21 => ("TurnedStatuesModel", "toldWhy", "I", false)
  | 22 => ("TurnedStatuesModel", "eighths", "I", false)
  | 23 => ("TurnedStatuesModel", "x", "I", false)
  | 24 => ("TurnedStatuesModel", "open", "[J", true)
  | 25 => ("TurnedStatuesModel", "good", "[J", true)
  | 26 => ("TurnedStatuesModel", "wayMany", "[J", true)
  | 27 => ("TurnedStatuesModel", "wayThen", "[J", true)
  | 28 => ("TurnedStatuesModel", "fitMany", "I", false)
  | 29 => ("TurnedStatuesModel", "fitFrom", "I", false)
  | 30 => ("TurnedStatuesModel", "fitTo", "I", false)
  | 31 => ("TurnedStatuesModel", "rowSort", "[I", true)
  | 32 => ("TurnedStatuesModel", "rowMany", "[I", true)
  | _ => ("TurnedStatuesModel", "numbers", "[J", true)
def tyX12 : Nat → FieldType := fun k => match k with
  | 0 => .int
  | 1 => .array .int
  | 2 => .array .boolean
  | 3 => .array .int
  | 4 => .array .int
  | 5 => .int
  | 6 => .int
  | 7 => .int
  | 8 => .int
  | 9 => .int
  | 10 => .int
  | 11 => .int
  | 12 => .int
  | 13 => .int
  | 14 => .int
  | 15 => .int
  | 16 => .array .int
  | 17 => .int
  | 18 => .int
  | 19 => .array .int
  | 20 => .array .int
  | 21 => .int
  | 22 => .int
  | 23 => .int
  | 24 => .array .long
  | 25 => .array .long
  | 26 => .array .long
  | 27 => .array .long
  | 28 => .int
  | 29 => .int
  | 30 => .int
  | 31 => .array .int
  | 32 => .array .int
  | _ => .array .long
abbrev zx_Me : Type := Nat × MethodName × ByteArray × Nat × Option FieldType × Bool
def zy_0 : MethodName := ⟨RX0, "passNight", "(LTurnedStatues$Square;LTurnedStatues$Stand;)I"⟩
def zy_1 : MethodName := ⟨RX0, "turnOf", "(LTurnedStatues$Square;LTurnedStatues$Stand;I)I"⟩
def zy_2 : MethodName := ⟨RX0, "inform", "(LTurnedStatues$Square;LTurnedStatues$Stand;II)V"⟩
def zy_3 : MethodName := ⟨RX0, "whyNoLetter", "(LTurnedStatues$Square;LTurnedStatues$Stand;II)I"⟩
def zy_4 : MethodName := ⟨RX0, "whyNotStanding", "(LTurnedStatues$Square;LTurnedStatues$Stand;I)I"⟩
def zy_5 : MethodName := ⟨RX0, "whyNotUp", "(LTurnedStatues$Square;LTurnedStatues$Stand;II)I"⟩
def zy_6 : MethodName := ⟨RX0, "whyNot", "(LTurnedStatues$Square;LTurnedStatues$Stand;J)I"⟩
def zy_7 : MethodName := ⟨RX0, "doDeed", "(LTurnedStatues$Square;LTurnedStatues$Stand;J)I"⟩
def zy_8 : MethodName := ⟨RX1, "<init>", "()V"⟩
def zy_9 : MethodName := ⟨RX1, "clear", "()V"⟩
def zy_10 : MethodName := ⟨RX1, "become", "(LTurnedStatues$Law;)V"⟩
def zy_11 : MethodName := ⟨RX1, "add", "(I)V"⟩
def zy_12 : MethodName := ⟨RX1, "holds", "()Z"⟩
def zy_13 : MethodName := ⟨RX1, "work", "(III)I"⟩
def zy_14 : MethodName := ⟨RX2, "<init>", "()V"⟩
def zy_15 : MethodName := ⟨RX2, "readLaw", "(LTurnedStatues$Tokens;LTurnedStatues$Law;)Z"⟩
def zy_16 : MethodName := ⟨RX2, "isWhole", "(I)Z"⟩
def zy_17 : MethodName := ⟨RX2, "readOperand", "(LTurnedStatues$Tokens;LTurnedStatues$Law;I)I"⟩
def zy_18 : MethodName := ⟨RX2, "readBehind", "(LTurnedStatues$Tokens;LTurnedStatues$Law;I)I"⟩
def zy_19 : MethodName := ⟨RX2, "shelve", "(I)V"⟩
def zy_20 : MethodName := ⟨RX2, "join", "(LTurnedStatues$Law;I)V"⟩
def zy_21 : MethodName := ⟨RX2, "close", "(LTurnedStatues$Law;)V"⟩
def zy_22 : MethodName := ⟨RX2, "release", "(LTurnedStatues$Law;I)V"⟩
def zy_23 : MethodName := ⟨RX2, "bond", "(I)I"⟩
def zy_24 : MethodName := ⟨RX3, "<init>", "()V"⟩
def zy_25 : MethodName := ⟨RX3, "forget", "()V"⟩
def zy_26 : MethodName := ⟨RX3, "keep", "(LTurnedStatues$Stand;)V"⟩
def zy_27 : MethodName := ⟨RX3, "bringBack", "(ILTurnedStatues$Stand;)V"⟩
def zy_28 : MethodName := ⟨RX4, "<init>", "()V"⟩
def zy_29 : MethodName := ⟨RX4, "faultPlace", "()I"⟩
def zy_30 : MethodName := ⟨RX4, "readText", "(I)I"⟩
def zy_31 : MethodName := ⟨RX4, "readRest", "()Z"⟩
def zy_32 : MethodName := ⟨RX4, "readNumber", "(II)Z"⟩
def zy_33 : MethodName := ⟨RX4, "readSpot", "()Z"⟩
def zy_34 : MethodName := ⟨RX4, "readStones", "()Z"⟩
def zy_35 : MethodName := ⟨RX4, "readStatue", "()Z"⟩
def zy_36 : MethodName := ⟨RX4, "readBlock", "(Z)Z"⟩
def zy_37 : MethodName := ⟨RX4, "readLetter", "(Z)Z"⟩
def zy_38 : MethodName := ⟨RX4, "readSnow", "()Z"⟩
def zy_39 : MethodName := ⟨RX5, "<init>", "()V"⟩
def zy_40 : MethodName := ⟨RX5, "gatherFreeing", "(LTurnedStatues$Square;LTurnedStatues$Stand;II)V"⟩
def zy_41 : MethodName := ⟨RX5, "gatherSeen", "(LTurnedStatues$Square;LTurnedStatues$Stand;LTurnedStatues$Tray;I)V"⟩
def zy_42 : MethodName := ⟨RX5, "foresee", "(LTurnedStatues$Square;LTurnedStatues$Stand;II)Z"⟩
def zy_43 : MethodName := ⟨RX5, "looksLike", "(LTurnedStatues$Tray;)Z"⟩
def zy_44 : MethodName := ⟨RX5, "accept", "(I)V"⟩
def zy_45 : MethodName := ⟨RX6, "<init>", "()V"⟩
def zy_46 : MethodName := ⟨RX6, "clear", "()V"⟩
def zy_47 : MethodName := ⟨RX6, "become", "(LTurnedStatues$Square;)V"⟩
def zy_48 : MethodName := ⟨RX6, "hasStatue", "(I)Z"⟩
def zy_49 : MethodName := ⟨RX6, "hasStone", "(I)Z"⟩
def zy_50 : MethodName := ⟨RX6, "columnOf", "(I)I"⟩
def zy_51 : MethodName := ⟨RX6, "rowOf", "(I)I"⟩
def zy_52 : MethodName := ⟨RX6, "addLetter", "(LTurnedStatues$Stand;III)V"⟩
def zy_53 : MethodName := ⟨RX6, "addSnow", "(II)V"⟩
def zy_54 : MethodName := ⟨RX6, "deliver", "(LTurnedStatues$Stand;)V"⟩
def zy_55 : MethodName := ⟨RX6, "writtenFor", "(I)Z"⟩
def zy_56 : MethodName := ⟨RX6, "writtenBehind", "(I)I"⟩
def zy_57 : MethodName := ⟨RX6, "snowLies", "(I)Z"⟩
def zy_58 : MethodName := ⟨RX6, "takenBits", "(LTurnedStatues$Stand;)J"⟩
def zy_59 : MethodName := ⟨RX6, "isTaken", "(LTurnedStatues$Stand;I)Z"⟩
def zy_60 : MethodName := ⟨RX6, "standingOn", "(LTurnedStatues$Stand;I)I"⟩
def zy_61 : MethodName := ⟨RX6, "towardsFoe", "(LTurnedStatues$Stand;I)I"⟩
def zy_62 : MethodName := ⟨RX6, "offOf", "(LTurnedStatues$Stand;I)I"⟩
def zy_63 : MethodName := ⟨RX6, "lookOf", "(LTurnedStatues$Stand;IJ)J"⟩
def zy_64 : MethodName := ⟨RX6, "seenBy", "(LTurnedStatues$Stand;I)I"⟩
def zy_65 : MethodName := ⟨RX6, "underBits", "(LTurnedStatues$Stand;)J"⟩
def zy_66 : MethodName := ⟨RX6, "watcherBits", "(LTurnedStatues$Stand;I)I"⟩
def zy_67 : MethodName := ⟨RX7, "<init>", "()V"⟩
def zy_68 : MethodName := ⟨RX7, "clear", "()V"⟩
def zy_69 : MethodName := ⟨RX7, "become", "(LTurnedStatues$Stand;)V"⟩
def zy_70 : MethodName := ⟨RX7, "stands", "(I)Z"⟩
def zy_71 : MethodName := ⟨RX7, "hates", "(I)Z"⟩
def zy_72 : MethodName := ⟨RX7, "howManyStand", "()I"⟩
def zy_73 : MethodName := ⟨RX7, "howManyHate", "(I)I"⟩
def zy_74 : MethodName := ⟨RX7, "ringLength", "(I)I"⟩
def zy_75 : MethodName := ⟨RX8, "<init>", "()V"⟩
def zy_76 : MethodName := ⟨RX8, "begin", "(I)V"⟩
def zy_77 : MethodName := ⟨RX8, "byteAt", "(I)I"⟩
def zy_78 : MethodName := ⟨RX8, "advance", "()V"⟩
def zy_79 : MethodName := ⟨RX8, "isSign", "(I)Z"⟩
def zy_80 : MethodName := ⟨RX8, "number", "()I"⟩
def zy_81 : MethodName := ⟨RX8, "word", "()I"⟩
def zy_82 : MethodName := ⟨RX8, "wrong", "(I)Z"⟩
def zy_83 : MethodName := ⟨RX8, "misplaced", "()Z"⟩
def zy_84 : MethodName := ⟨RX8, "expect", "(I)Z"⟩
def zy_85 : MethodName := ⟨RX9, "<init>", "()V"⟩
def zy_86 : MethodName := ⟨RX9, "renew", "(II)V"⟩
def zy_87 : MethodName := ⟨RX9, "get", "(I)J"⟩
def zy_88 : MethodName := ⟨RX9, "put", "(IJ)V"⟩
def zy_89 : MethodName := ⟨RX9, "cut", "(J)J"⟩
def zy_90 : MethodName := ⟨RX10, "<init>", "()V"⟩
def zy_91 : MethodName := ⟨RX10, "foresee", "(LTurnedStatues$Square;LTurnedStatues$Stand;)V"⟩
def zy_92 : MethodName := ⟨RX10, "measure", "(LTurnedStatues$Square;)V"⟩
def zy_93 : MethodName := ⟨RX10, "spread", "(LTurnedStatues$Square;J)J"⟩
def zy_94 : MethodName := ⟨RX10, "reachedIn", "(LTurnedStatues$Square;II)J"⟩
def zy_95 : MethodName := ⟨RX10, "fewestNights", "(LTurnedStatues$Square;II)I"⟩
def zy_96 : MethodName := ⟨RX10, "howMany", "(LTurnedStatues$Square;III)J"⟩
def zy_97 : MethodName := ⟨RX10, "sumOver", "(J)J"⟩
def zy_98 : MethodName := ⟨RX10, "placeBehind", "(LTurnedStatues$Square;IIII)I"⟩
def zy_99 : MethodName := ⟨RX11, "<init>", "()V"⟩
def zy_100 : MethodName := ⟨RX11, "feed", "(IIIII)I"⟩
def zy_101 : MethodName := ⟨RX11, "tapeInt", "(I)V"⟩
def zy_102 : MethodName := ⟨RX11, "square", "(I)I"⟩
def zy_103 : MethodName := ⟨RX11, "fault", "(I)I"⟩
def zy_104 : MethodName := ⟨RX11, "statue", "(II)I"⟩
def zy_105 : MethodName := ⟨RX11, "stone", "(I)I"⟩
def zy_106 : MethodName := ⟨RX11, "look", "(I)J"⟩
def zy_107 : MethodName := ⟨RX11, "under", "()J"⟩
def zy_108 : MethodName := ⟨RX11, "watchers", "(I)I"⟩
def zy_109 : MethodName := ⟨RX11, "towards", "(I)I"⟩
def zy_110 : MethodName := ⟨RX11, "nights", "(I)I"⟩
def zy_111 : MethodName := ⟨RX11, "letter", "(II)I"⟩
def zy_112 : MethodName := ⟨RX11, "peace", "(I)I"⟩
def zy_113 : MethodName := ⟨RX11, "down", "(I)I"⟩
def zy_114 : MethodName := ⟨RX11, "up", "(II)I"⟩
def zy_115 : MethodName := ⟨RX11, "undo", "(I)I"⟩
def zy_116 : MethodName := ⟨RX11, "judge", "(II)I"⟩
def zy_117 : MethodName := ⟨RX11, "perform", "(I)I"⟩
def zy_118 : MethodName := ⟨RX11, "month", "(II)I"⟩
def zy_119 : MethodName := ⟨RX11, "afterDraw", "(I)I"⟩
def zy_120 : MethodName := ⟨RX11, "still", "()I"⟩
def zy_121 : MethodName := ⟨RX11, "later", "(III)I"⟩
def zy_122 : MethodName := ⟨RX11, "facing", "(I)I"⟩
def zy_123 : MethodName := ⟨RX11, "pair", "()I"⟩
def zy_124 : MethodName := ⟨RX11, "rings", "()I"⟩
def zy_125 : MethodName := ⟨RX11, "ringOf", "(I)I"⟩
def zy_126 : MethodName := ⟨RX11, "calm", "()I"⟩
def zy_127 : MethodName := ⟨RX11, "way", "(II)I"⟩
def zy_128 : MethodName := ⟨RX11, "reach", "(II)J"⟩
def zy_129 : MethodName := ⟨RX11, "ways", "(III)J"⟩
def zy_130 : MethodName := ⟨RX11, "step", "(III)I"⟩
def zy_131 : MethodName := ⟨RX11, "freeIn", "(I)I"⟩
def zy_132 : MethodName := ⟨RX11, "takeDown", "(II)I"⟩
def zy_133 : MethodName := ⟨RX11, "fewestToTakeDown", "(I)I"⟩
def zy_134 : MethodName := ⟨RX11, "freeWithout", "(II)Z"⟩
def zy_135 : MethodName := ⟨RX11, "reconcile", "(II)I"⟩
def zy_136 : MethodName := ⟨RX11, "blocks", "(I)J"⟩
def zy_137 : MethodName := ⟨RX11, "frees", "(III)I"⟩
def zy_138 : MethodName := ⟨RX11, "seen", "(II)I"⟩
def zy_139 : MethodName := ⟨RX11, "writer", "(III)I"⟩
def zy_140 : MethodName := ⟨RX11, "whyNotSeen", "(LTurnedStatues$Tray;I)I"⟩
def zy_141 : MethodName := ⟨RX11, "turners", "(I)I"⟩
def zy_142 : MethodName := ⟨RX11, "trayAt", "(I)LTurnedStatues$Tray;"⟩
def zy_143 : MethodName := ⟨RX11, "numbers", "(III)I"⟩
def zy_144 : MethodName := ⟨RX11, "write", "(IIJ)J"⟩
def zy_145 : MethodName := ⟨RX11, "copy", "(I)I"⟩
def zy_146 : MethodName := ⟨RX11, "image", "(I)I"⟩
def zy_147 : MethodName := ⟨RX11, "restore", "(I)I"⟩
def zy_148 : MethodName := ⟨RX11, "isImage", "(I)Z"⟩
def zy_149 : MethodName := ⟨RX11, "count", "(I)I"⟩
def zy_150 : MethodName := ⟨RX12, "within", "(JJJ)Z"⟩
def zy_151 : MethodName := ⟨RX12, "<init>", "()V"⟩
def zy_152 : MethodName := ⟨RX12, "plain", "([I)V"⟩
def zy_153 : MethodName := ⟨RX12, "feed", "(IIIII)I"⟩
def zy_154 : MethodName := ⟨RX12, "see", "(I)I"⟩
def zy_155 : MethodName := ⟨RX12, "isSmall", "(I)Z"⟩
def zy_156 : MethodName := ⟨RX12, "isDigit", "(I)Z"⟩
def zy_157 : MethodName := ⟨RX12, "keyAt", "()I"⟩
def zy_158 : MethodName := ⟨RX12, "next", "()V"⟩
def zy_159 : MethodName := ⟨RX12, "fails", "(I)V"⟩
def zy_160 : MethodName := ⟨RX12, "is", "(I)Z"⟩
def zy_161 : MethodName := ⟨RX12, "eats", "(I)Z"⟩
def zy_162 : MethodName := ⟨RX12, "takes", "(II)I"⟩
def zy_163 : MethodName := ⟨RX12, "isIn", "(JI)Z"⟩
def zy_164 : MethodName := ⟨RX12, "codes", "(I)V"⟩
def zy_165 : MethodName := ⟨RX12, "goesIn", "(I)Z"⟩
def zy_166 : MethodName := ⟨RX12, "readAtom", "(I)V"⟩
def zy_167 : MethodName := ⟨RX12, "readTerm", "(I)V"⟩
def zy_168 : MethodName := ⟨RX12, "readSum", "(I)V"⟩
def zy_169 : MethodName := ⟨RX12, "readUnit", "(I)V"⟩
def zy_170 : MethodName := ⟨RX12, "readBoth", "(I)V"⟩
def zy_171 : MethodName := ⟨RX12, "readTruth", "(I)V"⟩
def zy_172 : MethodName := ⟨RX12, "readStones", "()V"⟩
def zy_173 : MethodName := ⟨RX12, "statueOn", "([II)I"⟩
def zy_174 : MethodName := ⟨RX12, "takesStone", "()I"⟩
def zy_175 : MethodName := ⟨RX12, "readStatue", "()V"⟩
def zy_176 : MethodName := ⟨RX12, "readThing", "(I)V"⟩
def zy_177 : MethodName := ⟨RX12, "readLetter", "()V"⟩
def zy_178 : MethodName := ⟨RX12, "readSnow", "()V"⟩
def zy_179 : MethodName := ⟨RX12, "readRest", "()V"⟩
def zy_180 : MethodName := ⟨RX12, "readLine", "()V"⟩
def zy_181 : MethodName := ⟨RX12, "square", "(I)I"⟩
def zy_182 : MethodName := ⟨RX12, "fault", "(I)I"⟩
def zy_183 : MethodName := ⟨RX12, "isStatue", "(J)Z"⟩
def zy_184 : MethodName := ⟨RX12, "stones", "()I"⟩
def zy_185 : MethodName := ⟨RX12, "isStone", "(J)Z"⟩
def zy_186 : MethodName := ⟨RX12, "stands", "(I)Z"⟩
def zy_187 : MethodName := ⟨RX12, "isTaken", "(I)Z"⟩
def zy_188 : MethodName := ⟨RX12, "hasFoe", "(I)Z"⟩
def zy_189 : MethodName := ⟨RX12, "far", "(I)I"⟩
def zy_190 : MethodName := ⟨RX12, "towardsOf", "(I)I"⟩
def zy_191 : MethodName := ⟨RX12, "offOf", "(I)I"⟩
def zy_192 : MethodName := ⟨RX12, "beyond", "(II)I"⟩
def zy_193 : MethodName := ⟨RX12, "lookOf", "(I)J"⟩
def zy_194 : MethodName := ⟨RX12, "underAll", "()J"⟩
def zy_195 : MethodName := ⟨RX12, "seesOf", "(I)I"⟩
def zy_196 : MethodName := ⟨RX12, "bitsOf", "(J)I"⟩
def zy_197 : MethodName := ⟨RX12, "between", "(III)I"⟩
def zy_198 : MethodName := ⟨RX12, "foesOf", "(I)I"⟩
def zy_199 : MethodName := ⟨RX12, "wordOf", "(II)I"⟩
def zy_200 : MethodName := ⟨RX12, "rests", "(I)Z"⟩
def zy_201 : MethodName := ⟨RX12, "isSnow", "()Z"⟩
def zy_202 : MethodName := ⟨RX12, "turns", "(I)Z"⟩
def zy_203 : MethodName := ⟨RX12, "letters", "()I"⟩
def zy_204 : MethodName := ⟨RX12, "night", "()I"⟩
def zy_205 : MethodName := ⟨RX12, "statue", "(II)I"⟩
def zy_206 : MethodName := ⟨RX12, "stone", "(I)I"⟩
def zy_207 : MethodName := ⟨RX12, "look", "(I)J"⟩
def zy_208 : MethodName := ⟨RX12, "under", "()J"⟩
def zy_209 : MethodName := ⟨RX12, "watchers", "(I)I"⟩
def zy_210 : MethodName := ⟨RX12, "towards", "(I)I"⟩
def zy_211 : MethodName := ⟨RX12, "keeps", "()V"⟩
def zy_212 : MethodName := ⟨RX12, "isAgain", "()V"⟩
def zy_213 : MethodName := ⟨RX12, "keepsAhead", "()V"⟩
def zy_214 : MethodName := ⟨RX12, "isAhead", "()V"⟩
def zy_215 : MethodName := ⟨RX12, "notes", "()V"⟩
def zy_216 : MethodName := ⟨RX12, "nights", "(I)I"⟩
def zy_217 : MethodName := ⟨RX12, "whyNot", "(J)I"⟩
def zy_218 : MethodName := ⟨RX12, "does", "(I)I"⟩
def zy_219 : MethodName := ⟨RX12, "did", "(IZII)I"⟩
def zy_220 : MethodName := ⟨RX12, "letter", "(II)I"⟩
def zy_221 : MethodName := ⟨RX12, "peace", "(I)I"⟩
def zy_222 : MethodName := ⟨RX12, "down", "(I)I"⟩
def zy_223 : MethodName := ⟨RX12, "up", "(II)I"⟩
def zy_224 : MethodName := ⟨RX12, "undo", "(I)I"⟩
def zy_225 : MethodName := ⟨RX12, "tells", "(I)I"⟩
def zy_226 : MethodName := ⟨RX12, "noTray", "(I)I"⟩
def zy_227 : MethodName := ⟨RX12, "judge", "(II)I"⟩
def zy_228 : MethodName := ⟨RX12, "perform", "(I)I"⟩
def zy_229 : MethodName := ⟨RX12, "draw", "(I)I"⟩
def zy_230 : MethodName := ⟨RX12, "drawn", "()I"⟩
def zy_231 : MethodName := ⟨RX12, "month", "(II)I"⟩
def zy_232 : MethodName := ⟨RX12, "still", "()I"⟩
def zy_233 : MethodName := ⟨RX12, "later", "(III)I"⟩
def zy_234 : MethodName := ⟨RX12, "facing", "(I)I"⟩
def zy_235 : MethodName := ⟨RX12, "pair", "()I"⟩
def zy_236 : MethodName := ⟨RX12, "ringAt", "(I)I"⟩
def zy_237 : MethodName := ⟨RX12, "rings", "()I"⟩
def zy_238 : MethodName := ⟨RX12, "ringOf", "(I)I"⟩
def zy_239 : MethodName := ⟨RX12, "calm", "()I"⟩
def zy_240 : MethodName := ⟨RX12, "freeStones", "()J"⟩
def zy_241 : MethodName := ⟨RX12, "laysOpen", "(I)V"⟩
def zy_242 : MethodName := ⟨RX12, "besides", "(J)J"⟩
def zy_243 : MethodName := ⟨RX12, "noWay", "(II)I"⟩
def zy_244 : MethodName := ⟨RX12, "wayOf", "(II)I"⟩
def zy_245 : MethodName := ⟨RX12, "way", "(II)I"⟩
def zy_246 : MethodName := ⟨RX12, "reach", "(II)J"⟩
def zy_247 : MethodName := ⟨RX12, "ways", "(III)J"⟩
def zy_248 : MethodName := ⟨RX12, "comesTo", "(I)J"⟩
def zy_249 : MethodName := ⟨RX12, "step", "(III)I"⟩
def zy_250 : MethodName := ⟨RX12, "isFree", "(I)Z"⟩
def zy_251 : MethodName := ⟨RX12, "freeIn", "(I)I"⟩
def zy_252 : MethodName := ⟨RX12, "fewest", "(IZ)I"⟩
def zy_253 : MethodName := ⟨RX12, "takeDown", "(II)I"⟩
def zy_254 : MethodName := ⟨RX12, "reconcile", "(II)I"⟩
def zy_255 : MethodName := ⟨RX12, "blocks", "(I)J"⟩
def zy_256 : MethodName := ⟨RX12, "mayWrite", "(II)Z"⟩
def zy_257 : MethodName := ⟨RX12, "frees", "(III)I"⟩
def zy_258 : MethodName := ⟨RX12, "fits", "(III)V"⟩
def zy_259 : MethodName := ⟨RX12, "laysFits", "(II)I"⟩
def zy_260 : MethodName := ⟨RX12, "seen", "(II)I"⟩
def zy_261 : MethodName := ⟨RX12, "writer", "(III)I"⟩
def zy_262 : MethodName := ⟨RX12, "turners", "(I)I"⟩
def zy_263 : MethodName := ⟨RX12, "cut", "(JI)J"⟩
def zy_264 : MethodName := ⟨RX12, "numbers", "(III)I"⟩
def zy_265 : MethodName := ⟨RX12, "write", "(IIJ)J"⟩
def zy_266 : MethodName := ⟨RX12, "copy", "(I)I"⟩
def zy_267 : MethodName := ⟨RX12, "image", "(I)I"⟩
def zy_268 : MethodName := ⟨RX12, "restore", "(I)I"⟩
def zy_269 : MethodName := ⟨RX12, "standing", "()I"⟩
def zy_270 : MethodName := ⟨RX12, "toCome", "()I"⟩
def zy_271 : MethodName := ⟨RX12, "things", "()I"⟩
def zy_272 : MethodName := ⟨RX12, "count", "(I)I"⟩
def zy_273 : MethodName := ⟨RJ6, "numberOfTrailingZeros", "(I)I"⟩
def zy_274 : MethodName := ⟨RJ6, "bitCount", "(I)I"⟩
def zy_275 : MethodName := ⟨RJ13, "numberOfTrailingZeros", "(J)I"⟩
def zy_276 : MethodName := ⟨RJ13, "bitCount", "(J)I"⟩
def zy_277 : MethodName := ⟨RJ0, "length", "()I"⟩
def zy_278 : MethodName := ⟨RJ0, "charAt", "(I)C"⟩
def zy_279 : MethodName := ⟨RJ0, "coder", "()B"⟩
def zy_280 : MethodName := ⟨RJ0, "isLatin1", "()Z"⟩
def zy_281 : MethodName := ⟨RJ0, "checkIndex", "(II)V"⟩
def zy_282 : MethodName := ⟨RJ1, "charAt", "([BI)C"⟩
def zy_283 : MethodName := ⟨RJ3, "checkIndex", "(IILjava/util/function/BiFunction;)I"⟩
def zy_300 : MethodName := ⟨RL, "law", "([I)Z"⟩
def zx_ms6 : List zx_Me := [(20, zy_300, code, 4, some Jvm.ClassFile.FieldType.boolean, false)]
def zx_ms0 : List zx_Me := [(0, zy_0, prog_2_method_2_code, 5, some Jvm.ClassFile.FieldType.int, false), (0, zy_1, prog_2_method_3_code, 5, some Jvm.ClassFile.FieldType.int, false), (0, zy_2, prog_2_method_4_code, 5, none, false), (0, zy_3, prog_2_method_5_code, 4, some Jvm.ClassFile.FieldType.int, false), (0, zy_4, prog_2_method_6_code, 3, some Jvm.ClassFile.FieldType.int, false), (0, zy_5, prog_2_method_7_code, 4, some Jvm.ClassFile.FieldType.int, false), (0, zy_6, prog_2_method_8_code, 4, some Jvm.ClassFile.FieldType.int, false), (0, zy_7, prog_2_method_9_code, 5, some Jvm.ClassFile.FieldType.int, false), (1, zy_8, prog_3_method_1_code, 1, none, true), (1, zy_9, prog_3_method_2_code, 1, none, false), (1, zy_10, prog_3_method_3_code, 3, none, false), (1, zy_11, prog_3_method_4_code, 2, none, false), (1, zy_12, prog_3_method_5_code, 4, some Jvm.ClassFile.FieldType.boolean, false), (1, zy_13, prog_3_method_6_code, 5, some Jvm.ClassFile.FieldType.int, false), (2, zy_14, prog_4_method_1_code, 1, none, true), (2, zy_15, prog_4_method_2_code, 5, some Jvm.ClassFile.FieldType.boolean, false), (2, zy_16, prog_4_method_3_code, 2, some Jvm.ClassFile.FieldType.boolean, false), (2, zy_17, prog_4_method_4_code, 6, some Jvm.ClassFile.FieldType.int, false), (2, zy_18, prog_4_method_5_code, 5, some Jvm.ClassFile.FieldType.int, false), (2, zy_19, prog_4_method_6_code, 2, none, false), (2, zy_20, prog_4_method_7_code, 3, none, false), (2, zy_21, prog_4_method_8_code, 2, none, false), (2, zy_22, prog_4_method_9_code, 5, none, false), (2, zy_23, prog_4_method_10_code, 1, some Jvm.ClassFile.FieldType.int, false), (3, zy_24, prog_5_method_1_code, 2, none, true), (3, zy_25, prog_5_method_2_code, 1, none, false), (3, zy_26, prog_5_method_3_code, 3, none, false), (3, zy_27, prog_5_method_4_code, 4, none, false), (4, zy_28, prog_6_method_1_code, 1, none, true), (4, zy_29, prog_6_method_2_code, 1, some Jvm.ClassFile.FieldType.int, false), (4, zy_30, prog_6_method_3_code, 4, some Jvm.ClassFile.FieldType.int, false), (4, zy_31, prog_6_method_4_code, 1, some Jvm.ClassFile.FieldType.boolean, false), (4, zy_32, prog_6_method_5_code, 3, some Jvm.ClassFile.FieldType.boolean, false), (4, zy_33, prog_6_method_6_code, 3, some Jvm.ClassFile.FieldType.boolean, false), (4, zy_34, prog_6_method_7_code, 2, some Jvm.ClassFile.FieldType.boolean, false), (4, zy_35, prog_6_method_8_code, 2, some Jvm.ClassFile.FieldType.boolean, false), (4, zy_36, prog_6_method_9_code, 2, some Jvm.ClassFile.FieldType.boolean, false), (4, zy_37, prog_6_method_10_code, 5, some Jvm.ClassFile.FieldType.boolean, false), (4, zy_38, prog_6_method_11_code, 2, some Jvm.ClassFile.FieldType.boolean, false), (5, zy_39, prog_7_method_1_code, 1, none, true), (5, zy_40, prog_7_method_2_code, 6, none, false), (5, zy_41, prog_7_method_3_code, 6, none, false), (5, zy_42, prog_7_method_4_code, 7, some Jvm.ClassFile.FieldType.boolean, false), (5, zy_43, prog_7_method_5_code, 3, some Jvm.ClassFile.FieldType.boolean, false), (5, zy_44, prog_7_method_6_code, 4, none, false), (6, zy_45, prog_8_method_1_code, 1, none, true), (6, zy_46, prog_8_method_2_code, 1, none, false), (6, zy_47, prog_8_method_3_code, 3, none, false), (6, zy_48, prog_8_method_4_code, 2, some Jvm.ClassFile.FieldType.boolean, false), (6, zy_49, prog_8_method_5_code, 2, some Jvm.ClassFile.FieldType.boolean, false)]
def zx_ms1 : List zx_Me := [(6, zy_50, prog_8_method_6_code, 2, some Jvm.ClassFile.FieldType.int, false), (6, zy_51, prog_8_method_7_code, 2, some Jvm.ClassFile.FieldType.int, false), (6, zy_52, prog_8_method_8_code, 5, none, false), (6, zy_53, prog_8_method_9_code, 3, none, false), (6, zy_54, prog_8_method_10_code, 4, none, false), (6, zy_55, prog_8_method_11_code, 3, some Jvm.ClassFile.FieldType.boolean, false), (6, zy_56, prog_8_method_12_code, 4, some Jvm.ClassFile.FieldType.int, false), (6, zy_57, prog_8_method_13_code, 3, some Jvm.ClassFile.FieldType.boolean, false), (6, zy_58, prog_8_method_14_code, 5, some Jvm.ClassFile.FieldType.long, false), (6, zy_59, prog_8_method_15_code, 3, some Jvm.ClassFile.FieldType.boolean, false), (6, zy_60, prog_8_method_16_code, 4, some Jvm.ClassFile.FieldType.int, false), (6, zy_61, prog_8_method_17_code, 8, some Jvm.ClassFile.FieldType.int, false), (6, zy_62, prog_8_method_18_code, 5, some Jvm.ClassFile.FieldType.int, false), (6, zy_63, prog_8_method_19_code, 14, some Jvm.ClassFile.FieldType.long, false), (6, zy_64, prog_8_method_20_code, 6, some Jvm.ClassFile.FieldType.int, false), (6, zy_65, prog_8_method_21_code, 7, some Jvm.ClassFile.FieldType.long, false), (6, zy_66, prog_8_method_22_code, 7, some Jvm.ClassFile.FieldType.int, false), (7, zy_67, prog_9_method_1_code, 2, none, true), (7, zy_68, prog_9_method_2_code, 2, none, false), (7, zy_69, prog_9_method_3_code, 3, none, false), (7, zy_70, prog_9_method_4_code, 2, some Jvm.ClassFile.FieldType.boolean, false), (7, zy_71, prog_9_method_5_code, 2, some Jvm.ClassFile.FieldType.boolean, false), (7, zy_72, prog_9_method_6_code, 3, some Jvm.ClassFile.FieldType.int, false), (7, zy_73, prog_9_method_7_code, 4, some Jvm.ClassFile.FieldType.int, false), (7, zy_74, prog_9_method_8_code, 4, some Jvm.ClassFile.FieldType.int, false), (8, zy_75, prog_10_method_1_code, 1, none, true), (8, zy_76, prog_10_method_2_code, 2, none, false), (8, zy_77, prog_10_method_3_code, 2, some Jvm.ClassFile.FieldType.int, false), (8, zy_78, prog_10_method_4_code, 2, none, false), (8, zy_79, prog_10_method_5_code, 2, some Jvm.ClassFile.FieldType.boolean, false), (8, zy_80, prog_10_method_6_code, 2, some Jvm.ClassFile.FieldType.int, false), (8, zy_81, prog_10_method_7_code, 5, some Jvm.ClassFile.FieldType.int, false), (8, zy_82, prog_10_method_8_code, 2, some Jvm.ClassFile.FieldType.boolean, false), (8, zy_83, prog_10_method_9_code, 1, some Jvm.ClassFile.FieldType.boolean, false), (8, zy_84, prog_10_method_10_code, 2, some Jvm.ClassFile.FieldType.boolean, false), (9, zy_85, prog_11_method_1_code, 1, none, true), (9, zy_86, prog_11_method_2_code, 4, none, false), (9, zy_87, prog_11_method_3_code, 2, some Jvm.ClassFile.FieldType.long, false), (9, zy_88, prog_11_method_4_code, 4, none, false), (9, zy_89, prog_11_method_5_code, 3, some Jvm.ClassFile.FieldType.long, false), (10, zy_90, prog_12_method_1_code, 1, none, true), (10, zy_91, prog_12_method_2_code, 6, none, false), (10, zy_92, prog_12_method_3_code, 5, none, false), (10, zy_93, prog_12_method_4_code, 6, some Jvm.ClassFile.FieldType.long, false), (10, zy_94, prog_12_method_5_code, 7, some Jvm.ClassFile.FieldType.long, false), (10, zy_95, prog_12_method_6_code, 7, some Jvm.ClassFile.FieldType.int, false), (10, zy_96, prog_12_method_7_code, 7, some Jvm.ClassFile.FieldType.long, false), (10, zy_97, prog_12_method_8_code, 8, some Jvm.ClassFile.FieldType.long, false), (10, zy_98, prog_12_method_9_code, 10, some Jvm.ClassFile.FieldType.int, false), (11, zy_99, prog_1_method_1_code, 2, none, true)]
def zx_ms2 : List zx_Me := [(11, zy_100, prog_1_method_2_code, 6, some Jvm.ClassFile.FieldType.int, false), (11, zy_101, prog_1_method_3_code, 4, none, false), (11, zy_102, prog_1_method_4_code, 2, some Jvm.ClassFile.FieldType.int, false), (11, zy_103, prog_1_method_5_code, 2, some Jvm.ClassFile.FieldType.int, false), (11, zy_104, prog_1_method_6_code, 3, some Jvm.ClassFile.FieldType.int, false), (11, zy_105, prog_1_method_7_code, 2, some Jvm.ClassFile.FieldType.int, false), (11, zy_106, prog_1_method_8_code, 2, some Jvm.ClassFile.FieldType.long, false), (11, zy_107, prog_1_method_9_code, 1, some Jvm.ClassFile.FieldType.long, false), (11, zy_108, prog_1_method_10_code, 2, some Jvm.ClassFile.FieldType.int, false), (11, zy_109, prog_1_method_11_code, 2, some Jvm.ClassFile.FieldType.int, false), (11, zy_110, prog_1_method_12_code, 4, some Jvm.ClassFile.FieldType.int, false), (11, zy_111, prog_1_method_13_code, 5, some Jvm.ClassFile.FieldType.int, false), (11, zy_112, prog_1_method_14_code, 4, some Jvm.ClassFile.FieldType.int, false), (11, zy_113, prog_1_method_15_code, 4, some Jvm.ClassFile.FieldType.int, false), (11, zy_114, prog_1_method_16_code, 4, some Jvm.ClassFile.FieldType.int, false), (11, zy_115, prog_1_method_17_code, 2, some Jvm.ClassFile.FieldType.int, false), (11, zy_116, prog_1_method_18_code, 7, some Jvm.ClassFile.FieldType.int, false), (11, zy_117, prog_1_method_19_code, 5, some Jvm.ClassFile.FieldType.int, false), (11, zy_118, prog_1_method_20_code, 11, some Jvm.ClassFile.FieldType.int, false), (11, zy_119, prog_1_method_21_code, 1, some Jvm.ClassFile.FieldType.int, false), (11, zy_120, prog_1_method_22_code, 4, some Jvm.ClassFile.FieldType.int, false), (11, zy_121, prog_1_method_23_code, 5, some Jvm.ClassFile.FieldType.int, false), (11, zy_122, prog_1_method_24_code, 3, some Jvm.ClassFile.FieldType.int, false), (11, zy_123, prog_1_method_25_code, 3, some Jvm.ClassFile.FieldType.int, false), (11, zy_124, prog_1_method_26_code, 3, some Jvm.ClassFile.FieldType.int, false), (11, zy_125, prog_1_method_27_code, 2, some Jvm.ClassFile.FieldType.int, false), (11, zy_126, prog_1_method_28_code, 3, some Jvm.ClassFile.FieldType.int, false), (11, zy_127, prog_1_method_29_code, 3, some Jvm.ClassFile.FieldType.int, false), (11, zy_128, prog_1_method_30_code, 3, some Jvm.ClassFile.FieldType.long, false), (11, zy_129, prog_1_method_31_code, 4, some Jvm.ClassFile.FieldType.long, false), (11, zy_130, prog_1_method_32_code, 5, some Jvm.ClassFile.FieldType.int, false), (11, zy_131, prog_1_method_33_code, 3, some Jvm.ClassFile.FieldType.int, false), (11, zy_132, prog_1_method_34_code, 4, some Jvm.ClassFile.FieldType.int, false), (11, zy_133, prog_1_method_35_code, 5, some Jvm.ClassFile.FieldType.int, false), (11, zy_134, prog_1_method_36_code, 4, some Jvm.ClassFile.FieldType.boolean, false), (11, zy_135, prog_1_method_37_code, 4, some Jvm.ClassFile.FieldType.int, false), (11, zy_136, prog_1_method_38_code, 8, some Jvm.ClassFile.FieldType.long, false), (11, zy_137, prog_1_method_39_code, 4, some Jvm.ClassFile.FieldType.int, false), (11, zy_138, prog_1_method_40_code, 5, some Jvm.ClassFile.FieldType.int, false), (11, zy_139, prog_1_method_41_code, 6, some Jvm.ClassFile.FieldType.int, false), (11, zy_140, prog_1_method_42_code, 4, some Jvm.ClassFile.FieldType.int, false), (11, zy_141, prog_1_method_43_code, 4, some Jvm.ClassFile.FieldType.int, false), (11, zy_142, prog_1_method_44_code, 2, some (Jvm.ClassFile.FieldType.object "TurnedStatues$Tray"), false), (11, zy_143, prog_1_method_45_code, 5, some Jvm.ClassFile.FieldType.int, false), (11, zy_144, prog_1_method_46_code, 6, some Jvm.ClassFile.FieldType.long, false), (11, zy_145, prog_1_method_47_code, 5, some Jvm.ClassFile.FieldType.int, false), (11, zy_146, prog_1_method_48_code, 2, some Jvm.ClassFile.FieldType.int, false), (11, zy_147, prog_1_method_49_code, 2, some Jvm.ClassFile.FieldType.int, false), (11, zy_148, prog_1_method_50_code, 2, some Jvm.ClassFile.FieldType.boolean, false), (11, zy_149, prog_1_method_51_code, 2, some Jvm.ClassFile.FieldType.int, false)]
def zx_ms3 : List zx_Me := [(12, zy_150, prog_14_method_2_code, 6, some Jvm.ClassFile.FieldType.boolean, false), (12, zy_151, prog_14_method_3_code, 1, none, true), (12, zy_152, prog_14_method_4_code, 2, none, false), (12, zy_153, prog_14_method_5_code, 8, some Jvm.ClassFile.FieldType.int, false), (12, zy_154, prog_14_method_6_code, 2, some Jvm.ClassFile.FieldType.int, false), (12, zy_155, prog_14_method_7_code, 1, some Jvm.ClassFile.FieldType.boolean, false), (12, zy_156, prog_14_method_8_code, 1, some Jvm.ClassFile.FieldType.boolean, false), (12, zy_157, prog_14_method_9_code, 4, some Jvm.ClassFile.FieldType.int, false), (12, zy_158, prog_14_method_10_code, 2, none, false), (12, zy_159, prog_14_method_11_code, 2, none, false), (12, zy_160, prog_14_method_12_code, 2, some Jvm.ClassFile.FieldType.boolean, false), (12, zy_161, prog_14_method_13_code, 2, some Jvm.ClassFile.FieldType.boolean, false), (12, zy_162, prog_14_method_14_code, 4, some Jvm.ClassFile.FieldType.int, false), (12, zy_163, prog_14_method_15_code, 3, some Jvm.ClassFile.FieldType.boolean, false), (12, zy_164, prog_14_method_16_code, 2, none, false), (12, zy_165, prog_14_method_17_code, 2, some Jvm.ClassFile.FieldType.boolean, false), (12, zy_166, prog_14_method_18_code, 2, none, false), (12, zy_167, prog_14_method_19_code, 2, none, false), (12, zy_168, prog_14_method_20_code, 3, none, false), (12, zy_169, prog_14_method_21_code, 3, none, false), (12, zy_170, prog_14_method_22_code, 2, none, false), (12, zy_171, prog_14_method_23_code, 2, none, false), (12, zy_172, prog_14_method_24_code, 3, none, false), (12, zy_173, prog_14_method_25_code, 3, some Jvm.ClassFile.FieldType.int, false), (12, zy_174, prog_14_method_26_code, 3, some Jvm.ClassFile.FieldType.int, false), (12, zy_175, prog_14_method_27_code, 5, none, false), (12, zy_176, prog_14_method_28_code, 3, none, false), (12, zy_177, prog_14_method_29_code, 6, none, false), (12, zy_178, prog_14_method_30_code, 3, none, false), (12, zy_179, prog_14_method_31_code, 1, none, false), (12, zy_180, prog_14_method_32_code, 2, none, false), (12, zy_181, prog_14_method_33_code, 3, some Jvm.ClassFile.FieldType.int, false), (12, zy_182, prog_14_method_34_code, 2, some Jvm.ClassFile.FieldType.int, false), (12, zy_183, prog_14_method_35_code, 3, some Jvm.ClassFile.FieldType.boolean, false), (12, zy_184, prog_14_method_36_code, 1, some Jvm.ClassFile.FieldType.int, false), (12, zy_185, prog_14_method_37_code, 3, some Jvm.ClassFile.FieldType.boolean, false), (12, zy_186, prog_14_method_38_code, 2, some Jvm.ClassFile.FieldType.boolean, false), (12, zy_187, prog_14_method_39_code, 2, some Jvm.ClassFile.FieldType.boolean, false), (12, zy_188, prog_14_method_40_code, 2, some Jvm.ClassFile.FieldType.boolean, false), (12, zy_189, prog_14_method_41_code, 1, some Jvm.ClassFile.FieldType.int, false), (12, zy_190, prog_14_method_42_code, 5, some Jvm.ClassFile.FieldType.int, false), (12, zy_191, prog_14_method_43_code, 4, some Jvm.ClassFile.FieldType.int, false), (12, zy_192, prog_14_method_44_code, 5, some Jvm.ClassFile.FieldType.int, false), (12, zy_193, prog_14_method_45_code, 5, some Jvm.ClassFile.FieldType.long, false), (12, zy_194, prog_14_method_46_code, 4, some Jvm.ClassFile.FieldType.long, false), (12, zy_195, prog_14_method_47_code, 2, some Jvm.ClassFile.FieldType.int, false), (12, zy_196, prog_14_method_48_code, 4, some Jvm.ClassFile.FieldType.int, false), (12, zy_197, prog_14_method_49_code, 5, some Jvm.ClassFile.FieldType.int, false), (12, zy_198, prog_14_method_50_code, 4, some Jvm.ClassFile.FieldType.int, false), (12, zy_199, prog_14_method_51_code, 3, some Jvm.ClassFile.FieldType.int, false)]
def zx_ms4 : List zx_Me := [(12, zy_200, prog_14_method_52_code, 5, some Jvm.ClassFile.FieldType.boolean, false), (12, zy_201, prog_14_method_53_code, 2, some Jvm.ClassFile.FieldType.boolean, false), (12, zy_202, prog_14_method_54_code, 2, some Jvm.ClassFile.FieldType.boolean, false), (12, zy_203, prog_14_method_55_code, 3, some Jvm.ClassFile.FieldType.int, false), (12, zy_204, prog_14_method_56_code, 3, some Jvm.ClassFile.FieldType.int, false), (12, zy_205, prog_14_method_57_code, 3, some Jvm.ClassFile.FieldType.int, false), (12, zy_206, prog_14_method_58_code, 2, some Jvm.ClassFile.FieldType.int, false), (12, zy_207, prog_14_method_59_code, 2, some Jvm.ClassFile.FieldType.long, false), (12, zy_208, prog_14_method_60_code, 1, some Jvm.ClassFile.FieldType.long, false), (12, zy_209, prog_14_method_61_code, 4, some Jvm.ClassFile.FieldType.int, false), (12, zy_210, prog_14_method_62_code, 2, some Jvm.ClassFile.FieldType.int, false), (12, zy_211, prog_14_method_63_code, 2, none, false), (12, zy_212, prog_14_method_64_code, 2, none, false), (12, zy_213, prog_14_method_65_code, 2, none, false), (12, zy_214, prog_14_method_66_code, 2, none, false), (12, zy_215, prog_14_method_67_code, 2, none, false), (12, zy_216, prog_14_method_68_code, 4, some Jvm.ClassFile.FieldType.int, false), (12, zy_217, prog_14_method_69_code, 5, some Jvm.ClassFile.FieldType.int, false), (12, zy_218, prog_14_method_70_code, 2, some Jvm.ClassFile.FieldType.int, false), (12, zy_219, prog_14_method_71_code, 6, some Jvm.ClassFile.FieldType.int, false), (12, zy_220, prog_14_method_72_code, 3, some Jvm.ClassFile.FieldType.int, false), (12, zy_221, prog_14_method_73_code, 2, some Jvm.ClassFile.FieldType.int, false), (12, zy_222, prog_14_method_74_code, 2, some Jvm.ClassFile.FieldType.int, false), (12, zy_223, prog_14_method_75_code, 4, some Jvm.ClassFile.FieldType.int, false), (12, zy_224, prog_14_method_76_code, 3, some Jvm.ClassFile.FieldType.int, false), (12, zy_225, prog_14_method_77_code, 3, some Jvm.ClassFile.FieldType.int, false), (12, zy_226, prog_14_method_78_code, 2, some Jvm.ClassFile.FieldType.int, false), (12, zy_227, prog_14_method_79_code, 6, some Jvm.ClassFile.FieldType.int, false), (12, zy_228, prog_14_method_80_code, 4, some Jvm.ClassFile.FieldType.int, false), (12, zy_229, prog_14_method_81_code, 2, some Jvm.ClassFile.FieldType.int, false), (12, zy_230, prog_14_method_82_code, 3, some Jvm.ClassFile.FieldType.int, false), (12, zy_231, prog_14_method_83_code, 6, some Jvm.ClassFile.FieldType.int, false), (12, zy_232, prog_14_method_84_code, 4, some Jvm.ClassFile.FieldType.int, false), (12, zy_233, prog_14_method_85_code, 5, some Jvm.ClassFile.FieldType.int, false), (12, zy_234, prog_14_method_86_code, 4, some Jvm.ClassFile.FieldType.int, false), (12, zy_235, prog_14_method_87_code, 3, some Jvm.ClassFile.FieldType.int, false), (12, zy_236, prog_14_method_88_code, 4, some Jvm.ClassFile.FieldType.int, false), (12, zy_237, prog_14_method_89_code, 3, some Jvm.ClassFile.FieldType.int, false), (12, zy_238, prog_14_method_90_code, 2, some Jvm.ClassFile.FieldType.int, false), (12, zy_239, prog_14_method_91_code, 3, some Jvm.ClassFile.FieldType.int, false), (12, zy_240, prog_14_method_92_code, 6, some Jvm.ClassFile.FieldType.long, false), (12, zy_241, prog_14_method_93_code, 3, none, false), (12, zy_242, prog_14_method_94_code, 7, some Jvm.ClassFile.FieldType.long, false), (12, zy_243, prog_14_method_95_code, 3, some Jvm.ClassFile.FieldType.int, false), (12, zy_244, prog_14_method_96_code, 6, some Jvm.ClassFile.FieldType.int, false), (12, zy_245, prog_14_method_97_code, 4, some Jvm.ClassFile.FieldType.int, false), (12, zy_246, prog_14_method_98_code, 6, some Jvm.ClassFile.FieldType.long, false), (12, zy_247, prog_14_method_99_code, 6, some Jvm.ClassFile.FieldType.long, false), (12, zy_248, prog_14_method_100_code, 5, some Jvm.ClassFile.FieldType.long, false), (12, zy_249, prog_14_method_101_code, 9, some Jvm.ClassFile.FieldType.int, false)]
def zx_ms5 : List zx_Me := [(12, zy_250, prog_14_method_102_code, 2, some Jvm.ClassFile.FieldType.boolean, false), (12, zy_251, prog_14_method_103_code, 4, some Jvm.ClassFile.FieldType.int, false), (12, zy_252, prog_14_method_104_code, 7, some Jvm.ClassFile.FieldType.int, false), (12, zy_253, prog_14_method_105_code, 4, some Jvm.ClassFile.FieldType.int, false), (12, zy_254, prog_14_method_106_code, 4, some Jvm.ClassFile.FieldType.int, false), (12, zy_255, prog_14_method_107_code, 5, some Jvm.ClassFile.FieldType.long, false), (12, zy_256, prog_14_method_108_code, 3, some Jvm.ClassFile.FieldType.boolean, false), (12, zy_257, prog_14_method_109_code, 9, some Jvm.ClassFile.FieldType.int, false), (12, zy_258, prog_14_method_110_code, 7, none, false), (12, zy_259, prog_14_method_111_code, 6, some Jvm.ClassFile.FieldType.int, false), (12, zy_260, prog_14_method_112_code, 4, some Jvm.ClassFile.FieldType.int, false), (12, zy_261, prog_14_method_113_code, 5, some Jvm.ClassFile.FieldType.int, false), (12, zy_262, prog_14_method_114_code, 4, some Jvm.ClassFile.FieldType.int, false), (12, zy_263, prog_14_method_115_code, 3, some Jvm.ClassFile.FieldType.long, false), (12, zy_264, prog_14_method_116_code, 5, some Jvm.ClassFile.FieldType.int, false), (12, zy_265, prog_14_method_117_code, 6, some Jvm.ClassFile.FieldType.long, false), (12, zy_266, prog_14_method_118_code, 5, some Jvm.ClassFile.FieldType.int, false), (12, zy_267, prog_14_method_119_code, 3, some Jvm.ClassFile.FieldType.int, false), (12, zy_268, prog_14_method_120_code, 3, some Jvm.ClassFile.FieldType.int, false), (12, zy_269, prog_14_method_121_code, 3, some Jvm.ClassFile.FieldType.int, false), (12, zy_270, prog_14_method_122_code, 3, some Jvm.ClassFile.FieldType.int, false), (12, zy_271, prog_14_method_123_code, 3, some Jvm.ClassFile.FieldType.int, false), (12, zy_272, prog_14_method_124_code, 2, some Jvm.ClassFile.FieldType.int, false), (13, zy_273, prog_15_method_48_code, 2, some Jvm.ClassFile.FieldType.int, false), (13, zy_274, prog_15_method_49_code, 1, some Jvm.ClassFile.FieldType.int, false), (14, zy_275, prog_16_method_49_code, 3, some Jvm.ClassFile.FieldType.int, false), (14, zy_276, prog_16_method_50_code, 2, some Jvm.ClassFile.FieldType.int, false), (16, zy_277, prog_18_method_54_code, 1, some Jvm.ClassFile.FieldType.int, false), (16, zy_278, prog_18_method_56_code, 2, some Jvm.ClassFile.FieldType.char, false), (16, zy_279, prog_18_method_152_code, 1, some Jvm.ClassFile.FieldType.byte, false), (16, zy_280, prog_18_method_154_code, 1, some Jvm.ClassFile.FieldType.boolean, false), (16, zy_281, prog_18_method_155_code, 2, none, false), (17, zy_282, prog_19_method_2_code, 2, some Jvm.ClassFile.FieldType.char, false), (19, zy_283, prog_22_method_11_code, 3, some Jvm.ClassFile.FieldType.int, false)]
def zx_ms (m : Nat) : Option zx_Me := match m / 50 with
  | 0 => zx_ms0[m % 50]?
  | 1 => zx_ms1[m % 50]?
  | 2 => zx_ms2[m % 50]?
  | 3 => zx_ms3[m % 50]?
  | 4 => zx_ms4[m % 50]?
  | 5 => zx_ms5[m % 50]?
  | 6 => zx_ms6[m % 50]?
  | _ => none
def zx_flds (o : Nat) : List (Nat × Nat × Nat × Nat) := match o with
  | 0 => [(9, 7, 3, 0), (21, 6, 8, 0), (30, 7, 1, 3), (42, 6, 0, 3), (46, 1, 3, 0), (65, 1, 2, 3), (68, 7, 0, 3), (133, 7, 2, 3)]
  | 1 => [(9, 1, 0, 3), (15, 1, 1, 3), (18, 1, 2, 3), (21, 1, 3, 0)]
  | 2 => [(9, 2, 0, 3), (20, 2, 1, 0), (24, 2, 2, 0), (27, 2, 3, 0), (30, 2, 4, 0), (33, 2, 5, 1), (41, 8, 4, 0), (64, 8, 5, 0)]
  | 3 => [(11, 3, 0, 3), (18, 3, 2, 0), (22, 3, 1, 0)]
  | 4 => [(12, 4, 0, 3), (21, 4, 1, 3), (28, 4, 2, 3), (35, 4, 3, 3), (39, 8, 7, 0), (51, 8, 4, 0), (81, 8, 6, 0), (84, 6, 9, 0), (90, 6, 0, 3), (98, 8, 5, 0), (104, 4, 4, 0), (107, 6, 6, 0), (114, 4, 5, 0), (117, 6, 7, 0), (124, 6, 8, 0), (130, 7, 1, 3), (134, 7, 2, 3), (137, 7, 0, 3), (139, 6, 12, 2), (143, 6, 13, 2), (146, 6, 10, 0), (153, 6, 11, 0)]
  | 5 => [(12, 5, 0, 3), (18, 5, 1, 0), (50, 7, 2, 3), (58, 9, 3, 0), (69, 7, 1, 3), (72, 5, 2, 0), (75, 5, 3, 0), (78, 5, 4, 1), (82, 5, 5, 1)]
  | 6 => [(12, 6, 0, 3), (18, 6, 1, 3), (22, 6, 2, 3), (25, 6, 3, 3), (28, 6, 4, 3), (31, 6, 5, 3), (37, 6, 6, 0), (41, 6, 7, 0), (44, 6, 8, 0), (47, 6, 9, 0), (50, 6, 10, 0), (53, 6, 11, 0), (56, 6, 12, 2), (60, 6, 13, 2), (67, 7, 2, 3), (72, 7, 3, 0), (75, 7, 0, 3), (102, 7, 1, 3)]
  | 7 => [(9, 7, 0, 3), (15, 7, 1, 3), (18, 7, 2, 3), (21, 7, 3, 0)]
  | 8 => [(9, 8, 0, 3), (15, 8, 1, 0), (19, 8, 2, 0), (22, 8, 6, 0), (25, 8, 7, 0), (35, 8, 3, 0), (38, 8, 4, 0), (62, 8, 5, 0)]
  | 9 => [(9, 9, 0, 3), (15, 9, 1, 1), (19, 9, 2, 0), (23, 9, 3, 0)]
  | 10 => [(12, 10, 0, 3), (18, 10, 1, 3), (22, 10, 2, 3), (25, 10, 3, 3), (28, 10, 4, 3), (45, 10, 7, 2), (60, 10, 5, 2), (63, 10, 6, 2), (74, 6, 6, 0)]
  | 11 => [(10, 11, 0, 3), (19, 11, 1, 3), (23, 11, 2, 3), (26, 11, 3, 3), (32, 11, 4, 3), (39, 11, 5, 3), (46, 11, 6, 3), (52, 11, 7, 3), (56, 11, 8, 3), (60, 11, 9, 3), (64, 11, 10, 3), (71, 11, 11, 3), (75, 11, 14, 0), (80, 11, 12, 0), (87, 4, 0, 3), (91, 8, 0, 3), (101, 11, 13, 0), (108, 4, 2, 3), (115, 4, 3, 3), (124, 6, 9, 0), (131, 7, 0, 3), (135, 7, 1, 3), (138, 7, 2, 3), (154, 7, 3, 0), (212, 3, 2, 0), (223, 9, 1, 1), (227, 9, 3, 0), (241, 6, 8, 0), (301, 5, 1, 0), (304, 5, 2, 0), (307, 5, 3, 0), (318, 5, 4, 1), (321, 5, 5, 1), (347, 6, 6, 0), (350, 6, 7, 0), (356, 6, 10, 0), (362, 6, 12, 2), (366, 6, 13, 2)]
  | 12 => [(1, 12, 0, 0), (13, 12, 1, 3), (17, 12, 2, 3), (21, 12, 3, 3), (24, 12, 4, 3), (27, 12, 14, 0), (30, 12, 16, 3), (33, 12, 19, 3), (36, 12, 20, 3), (39, 12, 24, 3), (43, 12, 25, 3), (46, 12, 26, 3), (49, 12, 27, 3), (52, 12, 31, 3), (55, 12, 32, 3), (58, 12, 33, 3), (65, 12, 5, 0), (68, 12, 8, 0), (83, 12, 6, 0), (86, 12, 7, 0), (93, 12, 9, 0), (106, 12, 10, 0), (111, 12, 11, 0), (114, 12, 12, 0), (194, 12, 13, 0), (219, 12, 15, 0), (260, 12, 17, 0), (266, 12, 18, 0), (320, 12, 21, 0), (323, 12, 22, 0), (338, 12, 23, 0), (400, 12, 28, 0), (403, 12, 29, 0), (406, 12, 30, 0)]
  | 16 => [(9, 16, 0, 3), (15, 16, 1, 4)]
  | _ => []
def zx_mths (o : Nat) : List (Nat × Nat × Nat × Nat) := match o with
  | 0 => [(15, 57, 1, 0), (24, 1, 3, 2), (34, 54, 1, 0), (38, 61, 2, 0), (51, 990, 2, 2), (57, 2, 4, 2), (61, 12, 0, 0), (71, 50, 1, 0), (75, 51, 1, 0), (78, 73, 1, 0), (81, 48, 1, 0), (84, 70, 1, 0), (87, 49, 1, 0), (90, 59, 2, 0), (98, 3, 4, 2), (106, 4, 3, 2), (117, 5, 4, 2), (120, 0, 2, 2), (124, 274, 1, 2), (129, 6, 3, 2)]
  | 1 => [(3, 999, 0, 1), (25, 13, 3, 2), (33, 993, 2, 2), (39, 994, 2, 2)]
  | 2 => [(3, 999, 0, 1), (15, 9, 0, 0), (37, 17, 3, 0), (46, 16, 1, 0), (50, 22, 2, 0), (54, 18, 3, 0), (57, 78, 0, 0), (60, 83, 0, 0), (67, 11, 1, 0), (71, 82, 1, 0), (74, 19, 1, 0), (77, 20, 2, 0), (80, 21, 1, 0), (84, 23, 1, 2), (88, 991, 2, 2)]
  | 3 => [(3, 999, 0, 1), (17, 67, 0, 1), (25, 69, 1, 0)]
  | 4 => [(3, 999, 0, 1), (11, 75, 0, 3), (20, 14, 0, 3), (27, 45, 0, 3), (34, 67, 0, 1), (43, 46, 0, 0), (46, 68, 0, 0), (47, 76, 1, 0), (54, 34, 0, 0), (58, 35, 0, 0), (61, 36, 1, 0), (65, 37, 1, 0), (68, 38, 0, 0), (71, 31, 0, 0), (74, 83, 0, 0), (77, 84, 1, 0), (87, 78, 0, 0), (94, 15, 2, 0), (101, 82, 1, 0), (110, 32, 2, 0), (120, 59, 2, 0), (127, 33, 0, 0), (149, 52, 4, 0), (156, 53, 2, 0)]
  | 5 => [(3, 999, 0, 1), (11, 67, 0, 1), (22, 42, 4, 0), (26, 66, 2, 0), (32, 44, 1, 0), (36, 43, 1, 0), (40, 69, 1, 0), (44, 3, 4, 2), (54, 0, 2, 2), (63, 87, 1, 0)]
  | 6 => [(3, 999, 0, 1), (11, 8, 0, 3), (34, 9, 0, 0), (63, 10, 1, 0), (78, 58, 1, 0), (82, 71, 1, 0), (86, 50, 1, 0), (90, 51, 1, 0), (93, 992, 1, 2), (98, 61, 2, 0), (105, 990, 2, 2), (115, 63, 3, 0), (119, 276, 1, 2), (125, 60, 2, 0), (128, 991, 2, 2)]
  | 7 => [(3, 999, 0, 1), (25, 70, 1, 0)]
  | 8 => [(3, 999, 0, 1), (28, 78, 0, 0), (31, 77, 1, 0), (41, 81, 0, 0), (45, 80, 0, 0), (48, 79, 1, 2), (54, 277, 0, 0), (58, 278, 1, 0), (67, 82, 1, 0), (70, 83, 0, 0)]
  | 9 => [(3, 999, 0, 1), (26, 89, 1, 0)]
  | 10 => [(3, 999, 0, 1), (11, 67, 0, 1), (31, 92, 1, 0), (35, 69, 1, 0), (39, 58, 1, 0), (51, 65, 1, 0), (54, 0, 2, 2), (66, 49, 1, 0), (70, 50, 1, 0), (78, 93, 2, 0), (82, 97, 1, 0), (86, 998, 5, 2), (92, 275, 1, 2)]
  | 11 => [(1, 999, 0, 1), (9, 45, 0, 3), (18, 67, 0, 1), (31, 24, 0, 1), (38, 39, 0, 3), (45, 90, 0, 3), (70, 28, 0, 3), (79, 85, 0, 3), (83, 101, 1, 0), (97, 30, 1, 0), (104, 29, 0, 0), (111, 47, 1, 0), (118, 69, 1, 0), (121, 25, 0, 0), (127, 48, 1, 0), (141, 62, 2, 0), (145, 64, 2, 0), (148, 1, 3, 2), (157, 57, 1, 0), (160, 49, 1, 0), (163, 60, 2, 0), (166, 58, 1, 0), (170, 63, 3, 0), (176, 65, 1, 0), (179, 66, 2, 0), (182, 61, 2, 0), (185, 26, 1, 0), (188, 0, 2, 2), (192, 274, 1, 2), (197, 3, 4, 2), (201, 4, 3, 2), (204, 5, 4, 2), (207, 276, 1, 2), (215, 27, 2, 0), (219, 142, 1, 0), (230, 87, 1, 0), (234, 6, 3, 2), (238, 7, 3, 2), (244, 119, 1, 2), (250, 55, 1, 0), (253, 74, 1, 0), (256, 70, 1, 0), (259, 71, 1, 0), (262, 59, 2, 0), (266, 91, 2, 0), (270, 95, 3, 0), (278, 94, 3, 0), (282, 96, 4, 0), (286, 98, 5, 0), (290, 133, 1, 0), (293, 134, 2, 0), (297, 40, 4, 0), (310, 140, 2, 0), (314, 41, 4, 0), (326, 86, 2, 0), (334, 88, 2, 0), (338, 990, 2, 2), (344, 148, 1, 0), (353, 72, 0, 0), (359, 56, 1, 0)]
  | 12 => [(7, 999, 0, 1), (61, 152, 1, 2), (73, 277, 0, 0), (79, 278, 1, 0), (89, 154, 1, 0), (96, 155, 1, 2), (100, 157, 0, 0), (103, 156, 1, 2), (117, 160, 1, 0), (120, 158, 0, 0), (123, 159, 1, 0), (127, 150, 3, 2), (131, 164, 1, 0), (138, 165, 1, 0), (141, 168, 1, 0), (144, 161, 1, 0), (147, 166, 1, 0), (150, 167, 1, 0), (153, 169, 1, 0), (156, 171, 1, 0), (159, 170, 1, 0), (162, 162, 2, 0), (166, 173, 2, 2), (170, 174, 0, 0), (173, 172, 0, 0), (176, 175, 0, 0), (179, 176, 1, 0), (182, 177, 0, 0), (185, 178, 0, 0), (188, 179, 0, 0), (191, 180, 0, 0), (197, 203, 0, 0), (200, 184, 0, 0), (203, 186, 1, 0), (206, 188, 1, 0), (209, 189, 1, 2), (212, 190, 1, 0), (222, 192, 2, 0), (225, 187, 1, 0), (228, 193, 1, 0), (232, 163, 2, 2), (240, 191, 1, 0), (243, 198, 1, 0), (246, 199, 2, 0), (249, 197, 3, 2), (253, 201, 0, 0), (257, 200, 1, 0), (263, 202, 1, 0), (269, 196, 1, 2), (273, 183, 1, 0), (277, 195, 1, 0), (280, 185, 1, 0), (285, 194, 0, 0), (291, 211, 0, 0), (294, 204, 0, 0), (297, 215, 0, 0), (308, 217, 1, 0), (311, 218, 1, 0), (314, 219, 4, 0), (328, 226, 1, 0), (331, 225, 1, 0), (334, 212, 0, 0), (341, 229, 1, 0), (346, 230, 0, 0), (349, 213, 0, 0), (352, 214, 0, 0), (359, 236, 1, 0), (362, 240, 0, 0), (365, 241, 1, 0), (368, 242, 1, 0), (372, 243, 2, 0), (375, 244, 2, 0), (386, 248, 1, 0), (389, 250, 1, 0), (392, 252, 2, 0), (396, 256, 2, 0), (411, 258, 3, 0), (415, 259, 2, 0), (420, 263, 2, 2), (424, 269, 0, 0), (427, 270, 0, 0), (430, 271, 0, 0)]
  | 14 => [(311, 273, 1, 2)]
  | 16 => [(335, 279, 0, 0), (492, 280, 0, 0), (495, 282, 2, 2), (1059, 283, 3, 2)]
  | 17 => [(9, 281, 2, 2)]
  | 20 => [(9, 99, 0, 1), (12, 151, 0, 1), (13, 100, 5, 0), (17, 153, 5, 0), (18, 102, 1, 0), (22, 181, 1, 0), (23, 103, 1, 0), (26, 182, 1, 0), (27, 104, 2, 0), (31, 205, 2, 0), (32, 105, 1, 0), (35, 206, 1, 0), (36, 106, 1, 0), (40, 207, 1, 0), (41, 107, 0, 0), (45, 208, 0, 0), (46, 108, 1, 0), (49, 209, 1, 0), (50, 109, 1, 0), (53, 210, 1, 0), (54, 110, 1, 0), (57, 216, 1, 0), (58, 111, 2, 0), (61, 220, 2, 0), (62, 112, 1, 0), (65, 221, 1, 0), (66, 113, 1, 0), (69, 222, 1, 0), (70, 114, 2, 0), (73, 223, 2, 0), (74, 115, 1, 0), (77, 224, 1, 0), (78, 116, 2, 0), (81, 227, 2, 0), (82, 117, 1, 0), (85, 228, 1, 0), (86, 118, 2, 0), (89, 231, 2, 0), (90, 120, 0, 0), (94, 232, 0, 0), (95, 121, 3, 0), (99, 233, 3, 0), (100, 122, 1, 0), (103, 234, 1, 0), (104, 123, 0, 0), (107, 235, 0, 0), (108, 124, 0, 0), (111, 237, 0, 0), (112, 125, 1, 0), (115, 238, 1, 0), (116, 126, 0, 0), (119, 239, 0, 0), (120, 127, 2, 0), (123, 245, 2, 0), (124, 128, 2, 0), (128, 246, 2, 0), (129, 129, 3, 0), (133, 247, 3, 0), (134, 130, 3, 0), (137, 249, 3, 0), (138, 131, 1, 0), (141, 251, 1, 0), (142, 132, 2, 0), (145, 253, 2, 0), (146, 135, 2, 0), (149, 254, 2, 0), (150, 136, 1, 0), (153, 255, 1, 0), (154, 137, 3, 0), (157, 257, 3, 0), (158, 138, 2, 0), (161, 260, 2, 0), (162, 139, 3, 0), (165, 261, 3, 0), (166, 141, 1, 0), (169, 262, 1, 0), (170, 143, 3, 0), (173, 264, 3, 0), (176, 144, 3, 0), (180, 265, 3, 0), (181, 145, 1, 0), (184, 266, 1, 0), (185, 146, 1, 0), (188, 267, 1, 0), (189, 147, 1, 0), (192, 268, 1, 0), (193, 149, 1, 0), (196, 272, 1, 0)]
  | _ => []
def zx_ints (o : Nat) : List (Nat × Int32) := match o with
  | 11 => [(249, 1103515245)]
  | 12 => [(337, 1103515245)]
  | 13 => [(264, 65536), (265, 1431655765), (266, 858993459), (267, 252645135)]
  | _ => []
def zx_lngs (o : Nat) : List (Nat × Int64) := match o with
  | 0 => [(94, (-1)), (96, 80), (102, 100), (104, 108), (109, 200), (111, 208), (113, 1000), (115, 1800)]
  | 1 => [(29, (-1000000)), (31, 1000000)]
  | 5 => [(67, (-1))]
  | 10 => [(49, (-1))]
  | 11 => [(174, (-2)), (247, (-1)), (274, (-3)), (276, (-5)), (324, 7), (330, (-6)), (332, (-7))]
  | 12 => [(134, 16), (136, 23), (236, 1000000), (238, (-1000000)), (283, (-2)), (289, 99), (300, (-1)), (302, 1999), (304, 100), (306, 299), (318, 10), (326, 3), (344, 60), (355, 2), (357, 200), (378, 40), (380, (-3)), (382, (-5)), (384, 20), (409, 7), (418, (-7))]
  | 14 => [(314, 6148914691236517205), (316, 3689348814741910323), (318, 1085102592571150095)]
  | 20 => [(174, 4294967295)]
  | _ => []
def zx_strs (o : Nat) : List (Nat × Nat) := match o with
  | 8 => [(52, 1), (65, 0)]
  | 12 => [(71, 2), (109, 1), (215, 3), (217, 4)]
  | _ => []
def zx_clss (o : Nat) : List (Nat × Nat) := match o with
  | 3 => [(9, 7)]
  | 4 => [(9, 8), (18, 2), (25, 6), (32, 7)]
  | 5 => [(9, 7)]
  | 6 => [(9, 1)]
  | 10 => [(9, 7)]
  | 11 => [(7, 6), (16, 7), (29, 3), (36, 5), (43, 10), (50, 9), (68, 4)]
  | 20 => [(7, 11), (10, 12)]
  | _ => []
def zx_gsts (o : Nat) : List (Nat × Value) := match o with
  | 6 => [(109, .ref 5001), (112, .ref 5002)]
  | 16 => [(38, .int 1), (1053, .ref 5030)]
  | _ => []
def zx_ft (c : Nat) : List (Nat × Bool) := match c with
  | 1 => [(3, true), (3, true), (3, true), (0, false)]
  | 2 => [(3, true), (0, false), (0, false), (0, false), (0, false), (1, false)]
  | 3 => [(3, true), (0, false), (0, false)]
  | 4 => [(3, true), (3, true), (3, true), (3, true), (0, false), (0, false)]
  | 5 => [(3, true), (0, false), (0, false), (0, false), (1, false), (1, false)]
  | 6 => [(3, true), (3, true), (3, true), (3, true), (3, true), (3, true), (0, false), (0, false), (0, false), (0, false), (0, false), (0, false), (2, false), (2, false)]
  | 7 => [(3, true), (3, true), (3, true), (0, false)]
  | 8 => [(3, true), (0, false), (0, false), (0, false), (0, false), (0, false), (0, false), (0, false)]
  | 9 => [(3, true), (1, false), (0, false), (0, false)]
  | 10 => [(3, true), (3, true), (3, true), (3, true), (3, true), (2, false), (2, false), (2, false)]
  | 11 => [(3, true), (3, true), (3, true), (3, true), (3, true), (3, true), (3, true), (3, true), (3, true), (3, true), (3, true), (3, true), (0, false), (0, false), (0, false)]
  | 12 => [(0, false), (3, true), (3, true), (3, true), (3, true), (0, false), (0, false), (0, false), (0, false), (0, false), (0, false), (0, false), (0, false), (0, false), (0, false), (0, false), (3, true), (0, false), (0, false), (3, true), (3, true), (0, false), (0, false), (0, false), (3, true), (3, true), (3, true), (3, true), (0, false), (0, false), (0, false), (3, true), (3, true), (3, true)]
  | _ => []
/-! ===== the abstract machine: cells by number; what an instruction does to a frame and the cells ===== -/
abbrev zx_Lay : Type := (Nat → Nat × Nat) × (Nat → Nat → Option Nat) × Nat × Nat
abbrev zx_MI : Type := Nat → Nat → Int32
abbrev zx_MJ : Type := Nat → Nat → Int64
abbrev zx_N : Type := Nat × List Value × List Value × zx_Lay × zx_MI × zx_MJ
abbrev zx_C : Type := Nat × List Value × List Value
abbrev zx_A : Type := zx_N ⊕ (Option Value ⊕ zx_C)
def zx_u {α : Type} (M : Nat → Nat → α) (a i : Nat) (v : α) : Nat → Nat → α := fun b j => if b = a ∧ j = i then v else M b j
def zx_uk {α : Type} (M : Nat → α) (a : Nat) (v : α) : Nat → α := fun b => if b = a then v else M b
/-- a slot of the locals of which nothing is said -/
abbrev zx_u0 : Value := .float 0
def zx_rv (r : Option Nat) : Value := match r with
  | none => .null
  | some a => .ref a
abbrev zx_in (i : Int32) (n : Nat) : Prop := ¬ i < 0 ∧ i.toNatClampNeg < n
def zx_find {α : Type} (l : List (Nat × α)) (i : Nat) : Option α := match l with
  | [] => none
  | (k, v) :: r => if k = i then some v else zx_find r i
def zx_len (i : Instr) : Nat := match i with
  | .aload _ | .iload _ | .lload _ | .astore _ | .istore _ | .lstore _ | .bipush _ | .ldc _ | .newarray _ => 2
  | .sipush _ | .ldc_w _ | .ldc2_w _ | .getfield _ | .putfield _ | .getstatic _ | .goto _ | .ifCond _ _ | .if_icmp _ _ | .ifnull _ | .ifnonnull _ | .iinc _ _ | .invokevirtual _ | .invokespecial _ | .invokestatic _ | .new _ | .anewarray _ => 3
  | _ => 1
def zx_sw (i : Instr) : Bool := match i with
  | .tableswitch _ _ _ _ => true
  | .lookupswitch _ _ => true
  | _ => false
def zx_i2 (f : Int32 → Int32 → Int32) (st : List Value) : Option (List Value) := match st with
  | .int y :: .int x :: r => some (.int (f x y) :: r)
  | _ => none
def zx_i1 (f : Int32 → Value) (st : List Value) : Option (List Value) := match st with
  | .int x :: r => some (f x :: r)
  | _ => none
def zx_l2 (f : Int64 → Int64 → Value) (st : List Value) : Option (List Value) := match st with
  | .long y :: .long x :: r => some (f x y :: r)
  | _ => none
def zx_li (f : Int64 → Int32 → Int64) (st : List Value) : Option (List Value) := match st with
  | .int y :: .long x :: r => some (.long (f x y) :: r)
  | _ => none
def zx_l1 (f : Int64 → Value) (st : List Value) : Option (List Value) := match st with
  | .long x :: r => some (f x :: r)
  | _ => none
def zx_ldi (ls st : List Value) (k : Nat) : Option (List Value) := match ls[k]? with
  | some (.int x) => some (.int x :: st)
  | _ => none
def zx_ldl (ls st : List Value) (k : Nat) : Option (List Value) := match ls[k]? with
  | some (.long x) => some (.long x :: st)
  | _ => none
def zx_lda (ls st : List Value) (k : Nat) : Option (List Value) := match ls[k]? with
  | some (.ref a) => some (.ref a :: st)
  | some .null => some (.null :: st)
  | _ => none
def zx_nol (ls : List Value) (k : Nat) : Bool := match k with
  | 0 => true
  | k + 1 => match ls[k]? with
    | some (.long _) => false
    | some (.double _) => false
    | _ => true
def zx_st1 (ls : List Value) (k : Nat) (v : Value) : Option (List Value) := if k < ls.length ∧ zx_nol ls k = true then some (ls.set k v) else none
def zx_st2 (ls : List Value) (k : Nat) (v : Value) : Option (List Value) := if k + 1 < ls.length ∧ zx_nol ls k = true then some ((ls.set k v).set (k + 1) zx_u0) else none
def zx_j (pc : Nat) (off : Int) (k : Nat → Option zx_A) : Option zx_A := match (pc : Int) + off with
  | .ofNat t => k t
  | .negSucc _ => none
/-- the target of a switch: pairs of match and offset in their order -/
def zx_pick (ps : List (Int × Int)) (d : Int) (x : Int32) : Int := match ps with
  | [] => d
  | (k, o) :: r => if x = Int32.ofInt k then o else zx_pick r d x
def zx_tps (lo : Int) (offs : List Int) : List (Int × Int) := match offs with
  | [] => []
  | o :: r => (lo, o) :: zx_tps (lo + 1) r
def zx_p (pc : Nat) (ls : List Value) (L : zx_Lay) (I : zx_MI) (J : zx_MJ) (o : Option (List Value)) : Option zx_A := match o with
  | some st => some (.inl (pc, ls, st, L, I, J))
  | none => none
def zx_pl (pc : Nat) (st : List Value) (L : zx_Lay) (I : zx_MI) (J : zx_MJ) (o : Option (List Value)) : Option zx_A := match o with
  | some ls => some (.inl (pc, ls, st, L, I, J))
  | none => none
def zx_icc (c : ClassFile.Cond) (x y : Int32) : Prop := match c with
  | .eq => x = y
  | .ne => ¬ x = y
  | .lt => x < y
  | .ge => ¬ x < y
  | .gt => y < x
  | .le => ¬ y < x
def zx_ic (c : ClassFile.Cond) (x y : Int32) (t e : Nat) : Nat := match c with
  | .eq => if x = y then t else e
  | .ne => if x = y then e else t
  | .lt => if x < y then t else e
  | .ge => if x < y then e else t
  | .gt => if y < x then t else e
  | .le => if y < x then e else t
def zx_tk (n : Nat) (st : List Value) : Option (List Value × List Value) := if n ≤ st.length then some ((st.take n).reverse, st.drop n) else none
def zx_cs (st : List Value) : Nat := (st.map fun v => v.category).sum
def zx_kty (k : ArrayType) : Option Nat := match k with
  | .int => some 0
  | .byte => some 1
  | .boolean => some 2
  | .long => some 3
  | _ => none
def zx_okr (rt : Option FieldType) (x : Int32) : Prop := match rt with
  | some .int => True
  | some .boolean => x = 0 ∨ x = 1
  | some .char => x &&& 65535 = x
  | some .byte => x.toInt8.toInt32 = x
  | _ => False
def zx_bst (t : Nat) (x : Int32) : Int32 := if t = 1 then x.toInt8.toInt32 else x &&& 1
/-- the long places of one row over another's -/
def zx_cpy (J : zx_MJ) (s d sp dp n : Nat) : zx_MJ := fun a k => if a = d ∧ dp ≤ k ∧ k < dp + n then J s (sp + (k - dp)) else J a k
def zx_new (L : zx_Lay) (k : Nat × Nat) (w : Nat) : zx_Lay := (zx_uk L.1 L.2.2.1 k, L.2.1, L.2.2.1 + 1, L.2.2.2 + w)
noncomputable def zx_if (c : Prop) (r : Option zx_A) : Option zx_A := @ite _ c (Classical.propDecidable c) r none
/-- the cells that can be read and written: of a kind, and made here -/
abbrev zx_wr (L : zx_Lay) (a : Nat) : Prop := a < L.2.2.1
noncomputable def zx_gf (pc : Nat) (ls : List Value) (L : zx_Lay) (I : zx_MI) (J : zx_MJ) (f : Option (Nat × Nat × Nat)) (st : List Value) : Option zx_A := match f with
  | some (c, k, t) => match st with
    | .ref a :: r => zx_if (L.1 a = (40 + c, 0)) (some (.inl (pc + 3, ls, (match t with
      | 2 => .long (J a k)
      | 3 => zx_rv (L.2.1 a k)
      | _ => .int (I a k)) :: r, L, I, J)))
    | _ => none
  | none => none
noncomputable def zx_pf (o : Nat) (ini : Bool) (pc : Nat) (ls : List Value) (L : zx_Lay) (I : zx_MI) (J : zx_MJ) (f : Option (Nat × Nat × Nat)) (st : List Value) : Option zx_A := match f with
  | some (c, k, t) => match (zx_ft c)[k]? with
    | some (_, fin) => if (!fin || (ini && (o == c))) = true then (match t with
      | 2 => (match st with
        | .long x :: .ref a :: r => zx_if (L.1 a = (40 + c, 0) ∧ zx_wr L a) (some (.inl (pc + 3, ls, r, L, I, zx_u J a k x)))
        | _ => none)
      | 3 => (match st with
        | .ref b :: .ref a :: r => zx_if (L.1 a = (40 + c, 0) ∧ zx_wr L a ∧ zx_wr L b) (some (.inl (pc + 3, ls, r, (L.1, zx_u L.2.1 a k (some b), L.2.2), I, J)))
        | _ => none)
      | 1 => (match st with
        | .int x :: .ref a :: r => zx_if (L.1 a = (40 + c, 0) ∧ zx_wr L a ∧ (x = 0 ∨ x = 1)) (some (.inl (pc + 3, ls, r, L, zx_u I a k x, J)))
        | _ => none)
      | 0 => (match st with
        | .int x :: .ref a :: r => zx_if (L.1 a = (40 + c, 0) ∧ zx_wr L a) (some (.inl (pc + 3, ls, r, L, zx_u I a k x, J)))
        | _ => none)
      | _ => none) else none
    | none => none
  | none => none
noncomputable def zx_cl (L : zx_Lay) (f : Option (Nat × Nat × Nat)) (pc : Nat) (ls : List Value) (I : zx_MI) (J : zx_MJ) (kk : Nat) (st : List Value) : Option zx_A := match f with
  | some (k, na, kd) => match k with
    | 999 => (match kk, st with
      | 1, .ref a :: r => if zx_cs r ≤ 8 then zx_if (zx_wr L a) (some (.inl (pc + 3, ls, r, L, I, J))) else none
      | _, _ => none)
    | 998 => (match kk, st with
      | 2, .int n :: .int dp :: .ref d :: .int sp :: .ref s :: r => zx_if ((L.1 s).1 = 3 ∧ (L.1 d).1 = 3 ∧ zx_wr L s ∧ zx_wr L d ∧ ¬ n < 0 ∧ ¬ dp < 0 ∧ ¬ sp < 0 ∧ sp.toNatClampNeg + n.toNatClampNeg ≤ (L.1 s).2 ∧ dp.toNatClampNeg + n.toNatClampNeg ≤ (L.1 d).2 ∧ zx_cs r ≤ 8) (some (.inl (pc + 3, ls, r, L, I, zx_cpy J s d sp.toNatClampNeg dp.toNatClampNeg n.toNatClampNeg)))
      | _, _ => none)
    | 990 => (match kk, st with
      | 2, .int y :: .int x :: r => if zx_cs r ≤ 8 then some (.inl (pc + 3, ls, .int (if y < x then y else x) :: r, L, I, J)) else none
      | _, _ => none)
    | 991 => (match kk, st with
      | 2, .int y :: .int x :: r => if zx_cs r ≤ 8 then some (.inl (pc + 3, ls, .int (if x < y then y else x) :: r, L, I, J)) else none
      | _, _ => none)
    | 992 => (match kk, st with
      | 2, .int x :: r => if zx_cs r ≤ 8 then some (.inl (pc + 3, ls, .int (if 0 ≤ x then x else 0 - x) :: r, L, I, J)) else none
      | _, _ => none)
    | 993 => (match kk, st with
      | 2, .long y :: .long x :: r => if zx_cs r ≤ 8 then some (.inl (pc + 3, ls, .long (if y < x then y else x) :: r, L, I, J)) else none
      | _, _ => none)
    | 994 => (match kk, st with
      | 2, .long y :: .long x :: r => if zx_cs r ≤ 8 then some (.inl (pc + 3, ls, .long (if y < x then x else y) :: r, L, I, J)) else none
      | _, _ => none)
    | _ => (match zx_ms k with
      | some (c, _) => (match kk, kd with
        | 2, 2 => (match zx_tk na st with
          | some (as, r) => if zx_cs r ≤ 8 then some (.inr (.inr (k, as, r))) else none
          | none => none)
        | 0, 0 => (match zx_tk (na + 1) st with
          | some (.ref a :: as, r) => if zx_cs r ≤ 8 then zx_if (L.1 a = (40 + c, 0)) (some (.inr (.inr (k, .ref a :: as, r)))) else none
          | _ => none)
        | 1, 1 => (match zx_tk (na + 1) st with
          | some (.ref a :: as, r) => if zx_cs r ≤ 8 then zx_if (a < 5000) (some (.inr (.inr (k, .ref a :: as, r)))) else none
          | _ => none)
        | 1, 3 => (match zx_tk (na + 1) st with
          | some (.ref a :: as, r) => if zx_cs r ≤ 8 then zx_if (a < 5000) (some (.inr (.inr (k, .ref a :: as, r)))) else none
          | _ => none)
        | _, _ => none)
      | none => none)
  | none => none
noncomputable def zx_act (o : Nat) (rt : Option FieldType) (ini : Bool) (pc : Nat) (i : Instr) (ls st : List Value) (L : zx_Lay) (I : zx_MI) (J : zx_MJ) : Option zx_A :=
  match i with
  | .iconst n => some (.inl (pc + 1, ls, .int (Int32.ofInt n) :: st, L, I, J))
  | .bipush n => some (.inl (pc + 2, ls, .int ((Int8.ofInt n).toInt32) :: st, L, I, J))
  | .sipush n => some (.inl (pc + 3, ls, .int ((Int16.ofInt n).toInt32) :: st, L, I, J))
  | .lconst n => some (.inl (pc + 1, ls, .long (Int64.ofNat (n : Nat)) :: st, L, I, J))
  | .aconst_null => some (.inl (pc + 1, ls, .null :: st, L, I, J))
  | .ldc x => (match zx_find (zx_ints o) x with
    | some v => some (.inl (pc + 2, ls, .int v :: st, L, I, J))
    | none => match zx_find (zx_strs o) x with
      | some q => some (.inl (pc + 2, ls, .ref (5010 + q) :: st, L, I, J))
      | none => none)
  | .ldc_w x => (match zx_find (zx_ints o) x with
    | some v => some (.inl (pc + 3, ls, .int v :: st, L, I, J))
    | none => none)
  | .ldc2_w x => (match zx_find (zx_lngs o) x with
    | some v => some (.inl (pc + 3, ls, .long v :: st, L, I, J))
    | none => none)
  | .iload k => zx_p (pc + 2) ls L I J (zx_ldi ls st k)
  | .iload_n k => zx_p (pc + 1) ls L I J (zx_ldi ls st k.val)
  | .lload k => zx_p (pc + 2) ls L I J (zx_ldl ls st k)
  | .lload_n k => zx_p (pc + 1) ls L I J (zx_ldl ls st k.val)
  | .aload k => zx_p (pc + 2) ls L I J (zx_lda ls st k)
  | .aload_n k => zx_p (pc + 1) ls L I J (zx_lda ls st k.val)
  | .istore k => (match st with
    | .int x :: r => zx_pl (pc + 2) r L I J (zx_st1 ls k (.int x))
    | _ => none)
  | .istore_n k => (match st with
    | .int x :: r => zx_pl (pc + 1) r L I J (zx_st1 ls k.val (.int x))
    | _ => none)
  | .lstore k => (match st with
    | .long x :: r => zx_pl (pc + 2) r L I J (zx_st2 ls k (.long x))
    | _ => none)
  | .lstore_n k => (match st with
    | .long x :: r => zx_pl (pc + 1) r L I J (zx_st2 ls k.val (.long x))
    | _ => none)
  | .astore k => (match st with
    | .ref x :: r => zx_pl (pc + 2) r L I J (zx_st1 ls k (.ref x))
    | .null :: r => zx_pl (pc + 2) r L I J (zx_st1 ls k .null)
    | _ => none)
  | .astore_n k => (match st with
    | .ref x :: r => zx_pl (pc + 1) r L I J (zx_st1 ls k.val (.ref x))
    | .null :: r => zx_pl (pc + 1) r L I J (zx_st1 ls k.val .null)
    | _ => none)
  | .iinc k n => (match ls[k]? with
    | some (.int x) => zx_pl (pc + 3) st L I J (zx_st1 ls k (.int (x + Int32.ofInt n)))
    | _ => none)
  | .iadd => zx_p (pc + 1) ls L I J (zx_i2 (fun x y => x + y) st)
  | .isub => zx_p (pc + 1) ls L I J (zx_i2 (fun x y => x - y) st)
  | .imul => zx_p (pc + 1) ls L I J (zx_i2 (fun x y => x * y) st)
  | .iand => zx_p (pc + 1) ls L I J (zx_i2 (fun x y => x &&& y) st)
  | .ior => zx_p (pc + 1) ls L I J (zx_i2 (fun x y => x ||| y) st)
  | .ixor => zx_p (pc + 1) ls L I J (zx_i2 (fun x y => x ^^^ y) st)
  | .ishl => zx_p (pc + 1) ls L I J (zx_i2 (fun x y => x <<< (y &&& 31)) st)
  | .ishr => zx_p (pc + 1) ls L I J (zx_i2 (fun x y => x >>> (y &&& 31)) st)
  | .iushr => zx_p (pc + 1) ls L I J (zx_i2 (fun x y => (x.toUInt32 >>> (y.toUInt32 &&& Int32.toUInt32 31)).toInt32) st)
  | .idiv => (match st with
    | .int y :: .int x :: r => zx_if (¬ y = 0) (some (.inl (pc + 1, ls, .int (x / y) :: r, L, I, J)))
    | _ => none)
  | .irem => (match st with
    | .int y :: .int x :: r => zx_if (¬ y = 0) (some (.inl (pc + 1, ls, .int (x - x / y * y) :: r, L, I, J)))
    | _ => none)
  | .ineg => zx_p (pc + 1) ls L I J (zx_i1 (fun x => .int (-x)) st)
  | .i2l => zx_p (pc + 1) ls L I J (zx_i1 (fun x => .long x.toInt64) st)
  | .i2b => zx_p (pc + 1) ls L I J (zx_i1 (fun x => .int x.toInt8.toInt32) st)
  | .i2s => zx_p (pc + 1) ls L I J (zx_i1 (fun x => .int x.toInt16.toInt32) st)
  | .i2c => zx_p (pc + 1) ls L I J (zx_i1 (fun x => .int (x.toUInt32 % 65536).toInt32) st)
  | .l2i => zx_p (pc + 1) ls L I J (zx_l1 (fun x => .int x.toInt32) st)
  | .ladd => zx_p (pc + 1) ls L I J (zx_l2 (fun x y => .long (x + y)) st)
  | .lsub => zx_p (pc + 1) ls L I J (zx_l2 (fun x y => .long (x - y)) st)
  | .lmul => zx_p (pc + 1) ls L I J (zx_l2 (fun x y => .long (x * y)) st)
  | .land => zx_p (pc + 1) ls L I J (zx_l2 (fun x y => .long (x &&& y)) st)
  | .lor => zx_p (pc + 1) ls L I J (zx_l2 (fun x y => .long (x ||| y)) st)
  | .lxor => zx_p (pc + 1) ls L I J (zx_l2 (fun x y => .long (x ^^^ y)) st)
  | .lcmp => zx_p (pc + 1) ls L I J (zx_l2 (fun x y => .int (lg_cmp x y)) st)
  | .lshl => zx_p (pc + 1) ls L I J (zx_li (fun x y => x <<< (y.toInt64 &&& 63)) st)
  | .lshr => zx_p (pc + 1) ls L I J (zx_li (fun x y => x >>> (y.toInt64 &&& 63)) st)
  | .lushr => zx_p (pc + 1) ls L I J (zx_li (fun x y => (x.toUInt64 >>> (y.toInt64.toUInt64 &&& Int64.toUInt64 63)).toInt64) st)
  | .dup => (match st with
    | .int x :: r => some (.inl (pc + 1, ls, .int x :: .int x :: r, L, I, J))
    | .ref x :: r => some (.inl (pc + 1, ls, .ref x :: .ref x :: r, L, I, J))
    | _ => none)
  | .dup2 => (match st with
    | .int y :: .ref x :: r => some (.inl (pc + 1, ls, .int y :: .ref x :: .int y :: .ref x :: r, L, I, J))
    | _ => none)
  | .pop => (match st with
    | .int _ :: r => some (.inl (pc + 1, ls, r, L, I, J))
    | _ => none)
  | .pop2 => (match st with
    | .long _ :: r => some (.inl (pc + 1, ls, r, L, I, J))
    | _ => none)
  | .ifCond c off => (match st with
    | .int x :: r => zx_j pc off fun t => some (.inl (zx_ic c x 0 t (pc + 3), ls, r, L, I, J))
    | _ => none)
  | .if_icmp c off => (match st with
    | .int y :: .int x :: r => zx_j pc off fun t => some (.inl (zx_ic c x y t (pc + 3), ls, r, L, I, J))
    | _ => none)
  | .ifnull off => (match st with
    | .ref a :: r => zx_if (a < 5000) (some (.inl (pc + 3, ls, r, L, I, J)))
    | .null :: r => zx_j pc off fun t => some (.inl (t, ls, r, L, I, J))
    | _ => none)
  | .ifnonnull off => (match st with
    | .ref a :: r => zx_j pc off fun t => zx_if (a < 5000) (some (.inl (t, ls, r, L, I, J)))
    | .null :: r => some (.inl (pc + 3, ls, r, L, I, J))
    | _ => none)
  | .goto off => zx_j pc off fun t => some (.inl (t, ls, st, L, I, J))
  | .tableswitch d lo hi offs => (match st with
    | .int x :: r => if hi - lo + 1 = (offs.size : Int) ∧ -2147483648 ≤ lo ∧ hi < 2147483648 then zx_j pc (zx_pick (zx_tps lo offs.toList) d x) fun t => some (.inl (t, ls, r, L, I, J)) else none
    | _ => none)
  | .lookupswitch d ps => (match st with
    | .int x :: r => if (ps.toList.zip (ps.toList.drop 1)).all (fun (a, next) => a.1 < next.1) = true ∧ ps.toList.all (fun q => decide (-2147483648 ≤ q.1 ∧ q.1 < 2147483648)) = true then zx_j pc (zx_pick ps.toList d x) fun t => some (.inl (t, ls, r, L, I, J)) else none
    | _ => none)
  | .getstatic x => (match zx_find (zx_gsts o) x with
    | some v => some (.inl (pc + 3, ls, v :: st, L, I, J))
    | none => none)
  | .getfield x => zx_gf pc ls L I J (zx_find (zx_flds o) x) st
  | .putfield x => zx_pf o ini pc ls L I J (zx_find (zx_flds o) x) st
  | .arraylength => (match st with
    | .ref a :: r => zx_if ((L.1 a).1 < 40) (some (.inl (pc + 1, ls, .int (Int32.ofNat (L.1 a).2) :: r, L, I, J)))
    | _ => none)
  | .iaload => (match st with
    | .int i :: .ref a :: r => zx_if ((L.1 a).1 = 0 ∧ zx_in i (L.1 a).2) (some (.inl (pc + 1, ls, .int (I a i.toNatClampNeg) :: r, L, I, J)))
    | _ => none)
  | .baload => (match st with
    | .int i :: .ref a :: r => zx_if (((L.1 a).1 = 1 ∨ (L.1 a).1 = 2) ∧ zx_in i (L.1 a).2) (some (.inl (pc + 1, ls, .int (I a i.toNatClampNeg) :: r, L, I, J)))
    | _ => none)
  | .laload => (match st with
    | .int i :: .ref a :: r => zx_if ((L.1 a).1 = 3 ∧ zx_in i (L.1 a).2) (some (.inl (pc + 1, ls, .long (J a i.toNatClampNeg) :: r, L, I, J)))
    | _ => none)
  | .aaload => (match st with
    | .int i :: .ref a :: r => zx_if (10 ≤ (L.1 a).1 ∧ (L.1 a).1 < 40 ∧ zx_in i (L.1 a).2) (some (.inl (pc + 1, ls, zx_rv (L.2.1 a i.toNatClampNeg) :: r, L, I, J)))
    | _ => none)
  | .iastore => (match st with
    | .int x :: .int i :: .ref a :: r => zx_if ((L.1 a).1 = 0 ∧ zx_in i (L.1 a).2 ∧ zx_wr L a) (some (.inl (pc + 1, ls, r, L, zx_u I a i.toNatClampNeg x, J)))
    | _ => none)
  | .bastore => (match st with
    | .int x :: .int i :: .ref a :: r => zx_if (((L.1 a).1 = 1 ∨ (L.1 a).1 = 2) ∧ zx_in i (L.1 a).2 ∧ zx_wr L a) (some (.inl (pc + 1, ls, r, L, zx_u I a i.toNatClampNeg (zx_bst (L.1 a).1 x), J)))
    | _ => none)
  | .lastore => (match st with
    | .long x :: .int i :: .ref a :: r => zx_if ((L.1 a).1 = 3 ∧ zx_in i (L.1 a).2 ∧ zx_wr L a) (some (.inl (pc + 1, ls, r, L, I, zx_u J a i.toNatClampNeg x)))
    | _ => none)
  | .aastore => (match st with
    | .ref b :: .int i :: .ref a :: r => zx_if (zx_wr L a ∧ zx_wr L b ∧ zx_in i (L.1 a).2 ∧ ∃ c, 1 ≤ c ∧ c < 13 ∧ (L.1 a).1 = 10 + c ∧ L.1 b = (40 + c, 0)) (some (.inl (pc + 1, ls, r, (L.1, zx_u L.2.1 a i.toNatClampNeg (some b), L.2.2), I, J)))
    | _ => none)
  | .new x => (match zx_find (zx_clss o) x with
    | some c => if 1 ≤ c ∧ c < 13 then zx_if (L.2.2.1 < 4000) (some (.inl (pc + 3, ls, .ref L.2.2.1 :: st, zx_new L (40 + c, 0) (zx_ft c).length, I, J))) else none
    | none => none)
  | .newarray k => (match zx_kty k, st with
    | some t, .int n :: r => zx_if (L.2.2.1 < 4000 ∧ ¬ n < 0 ∧ n.toNatClampNeg ≤ 100000) (some (.inl (pc + 2, ls, .ref L.2.2.1 :: r, zx_new L (t, n.toNatClampNeg) n.toNatClampNeg, I, J)))
    | _, _ => none)
  | .anewarray x => (match zx_find (zx_clss o) x, st with
    | some c, .int n :: r => if c = 6 ∨ c = 7 ∨ c = 9 then zx_if (L.2.2.1 < 4000 ∧ ¬ n < 0 ∧ n.toNatClampNeg ≤ 100000) (some (.inl (pc + 3, ls, .ref L.2.2.1 :: r, zx_new L (10 + c, n.toNatClampNeg) n.toNatClampNeg, I, J))) else none
    | _, _ => none)
  | .invokevirtual x => zx_cl L (zx_find (zx_mths o) x) pc ls I J 0 st
  | .invokespecial x => zx_cl L (zx_find (zx_mths o) x) pc ls I J 1 st
  | .invokestatic x => zx_cl L (zx_find (zx_mths o) x) pc ls I J 2 st
  | .ireturn => (match st with
    | [.int x] => zx_if (zx_okr rt x) (some (.inr (.inl (some (.int x)))))
    | _ => none)
  | .lreturn => (match st with
    | [.long x] => if rt = some .long then some (.inr (.inl (some (.long x)))) else none
    | _ => none)
  | .areturn => (match rt, st with
    | some (.object _), [.ref x] => zx_if (zx_wr L x) (some (.inr (.inl (some (.ref x)))))
    | some (.object _), [.null] => some (.inr (.inl (some .null)))
    | _, _ => none)
  | .return_ => (match st with
    | [] => if rt = none then some (.inr (.inl none)) else none
    | _ => none)
  | _ => none
def zx_en (as : List Value) : List Value := match as with
  | [] => []
  | v :: r => if v.category = 2 then v :: zx_u0 :: zx_en r else v :: zx_en r
def zx_ent (mx : Nat) (as : List Value) : List Value := zx_en as ++ List.replicate (mx - (zx_en as).length) zx_u0
def zx_pu (r : Option Value) (st : List Value) : List Value := match r with
  | some v => v :: st
  | none => st
/-- the machine itself: fuel, calls left, method, place, locals, stack, cells -/
noncomputable def zx_ex (f d m pc : Nat) (ls st : List Value) (L : zx_Lay) (I : zx_MI) (J : zx_MJ) : Option (Option Value × zx_Lay × zx_MI × zx_MJ) := match f with
  | 0 => none
  | f + 1 => match zx_ms m with
    | none => none
    | some (o, _, b, _, rt, ini) => match decode b pc with
      | .error _ => none
      | .ok (i, len) => if len = zx_len i ∨ zx_sw i = true then (match zx_act o rt ini pc i ls st L I J with
        | none => none
        | some (.inl (pc2, ls2, st2, L2, I2, J2)) => zx_ex f d m pc2 ls2 st2 L2 I2 J2
        | some (.inr (.inl r)) => some (r, L, I, J)
        | some (.inr (.inr (k, as, st2))) => match d, zx_ms k with
          | d + 1, some (_, _, _, mx, _, _) => if (zx_en as).length ≤ mx then (match zx_ex f d k 0 (zx_ent mx as) [] L I J with
            | some (r, L2, I2, J2) => zx_ex f (d + 1) m (pc + 3) ls (zx_pu r st2) L2 I2 J2
            | none => none) else none
          | _, _ => none) else none
def zx_wp (d m pc : Nat) (ls st : List Value) (L : zx_Lay) (I : zx_MI) (J : zx_MJ) (P : Option Value → zx_Lay → zx_MI → zx_MJ → Prop) : Prop :=
  ∃ (f : Nat) (r : Option Value) (L2 : zx_Lay) (I2 : zx_MI) (J2 : zx_MJ), zx_ex f d m pc ls st L I J = some (r, L2, I2, J2) ∧ P r L2 I2 J2
def zx_rn (d m : Nat) (as : List Value) (L : zx_Lay) (I : zx_MI) (J : zx_MJ) (P : Option Value → zx_Lay → zx_MI → zx_MJ → Prop) : Prop :=
  ∃ me, zx_ms m = some me ∧ (zx_en as).length ≤ me.2.2.2.1 ∧ zx_wp d m 0 (zx_ent me.2.2.2.1 as) [] L I J P

