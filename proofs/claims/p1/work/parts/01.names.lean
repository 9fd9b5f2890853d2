theorem goodIn_r {big : List Cond} (ws : List Cond) (ps : List Nat) (hp : ws = ps.filterMap (fun i => big[i]?)) (h : ws.all goodWord = true) : GoodIn big ws := by
  intro w hw
  have h1 := List.all_eq_true.mp h w hw
  rw [hp] at hw
  obtain ⟨i, -, hi⟩ := List.mem_filterMap.mp hw
  have hm : w ∈ big := by first | exact List.mem_of_getElem? hi | exact List.getElem?_mem hi
  exact ⟨hm, good_of_word h1⟩
theorem goodIn_app {big a b : List Cond} (ha : GoodIn big a) (hb : GoodIn big b) : GoodIn big (a ++ b) := fun w h => (List.mem_append.mp h).elim (ha w) (hb w)
theorem goodIn_ca {big a b : List Cond} {c : Cond} (ha : GoodIn big (c :: a)) (hb : GoodIn big b) : GoodIn big (c :: (a ++ b)) := fun w h => (List.mem_cons.mp h).elim (fun e => ha w (List.mem_cons.mpr (Or.inl e))) (fun h => (List.mem_append.mp h).elim (fun h => ha w (List.mem_cons.mpr (Or.inr h))) (hb w))
theorem goodIn_sub {big ws : List Cond} (hm : ∀ w ∈ ws, w ∈ big) (h : ws.all goodWord = true) : GoodIn big ws := fun w hw => ⟨hm w hw, good_of_word (List.all_eq_true.mp h w hw)⟩
def RX0 : String := "SixNet$Entry"
def TX0 : u_T := fun k => match k with
  | 0 => ("SixNet$Entry", "high", "J", false)
  | 1 => ("SixNet$Entry", "low", "J", false)
  | 2 => ("SixNet$Entry", "mac", "J", false)
  | 3 => ("SixNet$Entry", "state", "I", false)
  | 4 => ("SixNet$Entry", "until", "I", false)
  | _ => ("SixNet$Entry", "tries", "I", false)
def RX1 : String := "SixNet$Face"
def TX1 : u_T := fun k => match k with
  | 0 => ("SixNet$Face", "number", "I", true)
  | 1 => ("SixNet$Face", "node", "LSixNet$Node;", true)
  | 2 => ("SixNet$Face", "link", "LSixNet$Link;", true)
  | 3 => ("SixNet$Face", "mac", "J", true)
  | 4 => ("SixNet$Face", "id", "J", true)
  | 5 => ("SixNet$Face", "localLow", "J", true)
  | 6 => ("SixNet$Face", "entries", "[LSixNet$Entry;", true)
  | 7 => ("SixNet$Face", "entryCount", "I", false)
  | 8 => ("SixNet$Face", "state", "I", false)
  | _ => ("SixNet$Face", "until", "I", false)
def RX2 : String := "SixNet$Hop"
def TX2 : u_T := fun k => match k with
  | 0 => ("SixNet$Hop", "face", "LSixNet$Face;", false)
  | 1 => ("SixNet$Hop", "high", "J", false)
  | _ => ("SixNet$Hop", "low", "J", false)
def tyX2 : Nat → FieldType := fun k => match k with
  | 0 => .object "SixNet$Face"
  | 1 => .long
  | _ => .long
abbrev wsX20 : List Cond := u_ws RX2 TX2 3
theorem tyX2_ok : ∀ k, k < 3 → parseFieldDescriptor (TX2 k).2.2.1 = some (tyX2 k) := by decide +kernel
abbrev cX2_init : ByteArray := prog_4_method_1_code
def yX2_init : MethodName := ⟨RX2, "<init>", "()V"⟩
def RX3 : String := "SixNet$Link"
def TX3 : u_T := fun k => match k with
  | 0 => ("SixNet$Link", "number", "I", true)
  | 1 => ("SixNet$Link", "prefix", "J", true)
  | 2 => ("SixNet$Link", "mtu", "I", true)
  | _ => ("SixNet$Link", "up", "Z", false)
def tyX3 : Nat → FieldType := fun k => match k with
  | 0 => .int
  | 1 => .long
  | 2 => .int
  | _ => .boolean
abbrev wsX30 : List Cond := u_ws RX3 TX3 4
theorem nmX3 : ∀ a, a < 4 → ∀ b, b < 4 → a ≠ b → (TX3 a).2.1 ≠ (TX3 b).2.1 := by decide +kernel
theorem tyX3_ok : ∀ k, k < 4 → parseFieldDescriptor (TX3 k).2.2.1 = some (tyX3 k) := by decide +kernel
abbrev cX3_init : ByteArray := prog_5_method_1_code
def yX3_init : MethodName := ⟨RX3, "<init>", "(IJI)V"⟩
def RX4 : String := "SixNet$Mtus"
def TX4 : u_T := fun k => match k with
  | 0 => ("SixNet$Mtus", "highs", "[J", true)
  | 1 => ("SixNet$Mtus", "lows", "[J", true)
  | 2 => ("SixNet$Mtus", "values", "[I", true)
  | 3 => ("SixNet$Mtus", "untils", "[I", true)
  | _ => ("SixNet$Mtus", "count", "I", false)
def tyX4 : Nat → FieldType := fun k => match k with
  | 0 => .array .long
  | 1 => .array .long
  | 2 => .array .int
  | 3 => .array .int
  | _ => .int
abbrev wsX40 : List Cond := u_ws RX4 TX4 5
theorem nmX4 : ∀ a, a < 5 → ∀ b, b < 5 → a ≠ b → (TX4 a).2.1 ≠ (TX4 b).2.1 := by decide +kernel
theorem tyX4_ok : ∀ k, k < 5 → parseFieldDescriptor (TX4 k).2.2.1 = some (tyX4 k) := by decide +kernel
abbrev cX4_init : ByteArray := prog_6_method_1_code
def yX4_init : MethodName := ⟨RX4, "<init>", "()V"⟩
def RX5 : String := "SixNet$Node"
def TX5 : u_T := fun k => match k with
  | 0 => ("SixNet$Node", "number", "I", true)
  | 1 => ("SixNet$Node", "router", "Z", true)
  | 2 => ("SixNet$Node", "faces", "[LSixNet$Face;", true)
  | 3 => ("SixNet$Node", "routes", "[LSixNet$Route;", true)
  | 4 => ("SixNet$Node", "parts", "[LSixNet$Parts;", true)
  | 5 => ("SixNet$Node", "mtus", "LSixNet$Mtus;", true)
  | 6 => ("SixNet$Node", "tallies", "[I", true)
  | 7 => ("SixNet$Node", "routerLows", "[J", true)
  | 8 => ("SixNet$Node", "routerUntils", "[I", true)
  | 9 => ("SixNet$Node", "faceCount", "I", false)
  | 10 => ("SixNet$Node", "routeCount", "I", false)
  | 11 => ("SixNet$Node", "partsCount", "I", false)
  | 12 => ("SixNet$Node", "routerCount", "I", false)
  | 13 => ("SixNet$Node", "onLinkUntil", "I", false)
  | _ => ("SixNet$Node", "cuts", "I", false)
def tyX5 : Nat → FieldType := fun k => match k with
  | 0 => .int
  | 1 => .boolean
  | 2 => .array (.object "SixNet$Face")
  | 3 => .array (.object "SixNet$Route")
  | 4 => .array (.object "SixNet$Parts")
  | 5 => .object "SixNet$Mtus"
  | 6 => .array .int
  | 7 => .array .long
  | 8 => .array .int
  | 9 => .int
  | 10 => .int
  | 11 => .int
  | 12 => .int
  | 13 => .int
  | _ => .int
abbrev wsX50 : List Cond := u_ws RX5 TX5 15
theorem nmX5 : ∀ a, a < 15 → ∀ b, b < 15 → a ≠ b → (TX5 a).2.1 ≠ (TX5 b).2.1 := by decide +kernel
theorem tyX5_ok : ∀ k, k < 15 → parseFieldDescriptor (TX5 k).2.2.1 = some (tyX5 k) := by decide +kernel
abbrev cX5_init : ByteArray := prog_7_method_1_code
def yX5_init : MethodName := ⟨RX5, "<init>", "(IZ)V"⟩
def RX6 : String := "SixNet$Packet"
def TX6 : u_T := fun k => match k with
  | 0 => ("SixNet$Packet", "data", "[B", true)
  | 1 => ("SixNet$Packet", "length", "I", false)
  | 2 => ("SixNet$Packet", "link", "I", false)
  | 3 => ("SixNet$Packet", "face", "I", false)
  | 4 => ("SixNet$Packet", "sent", "I", false)
  | _ => ("SixNet$Packet", "owner", "LSixNet$Entry;", false)
def tyX6 : Nat → FieldType := fun k => match k with
  | 0 => .array .byte
  | 1 => .int
  | 2 => .int
  | 3 => .int
  | 4 => .int
  | _ => .object "SixNet$Entry"
abbrev wsX60 : List Cond := u_ws RX6 TX6 6
theorem nmX6 : ∀ a, a < 6 → ∀ b, b < 6 → a ≠ b → (TX6 a).2.1 ≠ (TX6 b).2.1 := by decide +kernel
theorem tyX6_ok : ∀ k, k < 6 → parseFieldDescriptor (TX6 k).2.2.1 = some (tyX6 k) := by decide +kernel
abbrev cX6_init : ByteArray := prog_8_method_1_code
def yX6_init : MethodName := ⟨RX6, "<init>", "(I)V"⟩
def RX7 : String := "SixNet$Parts"
def TX7 : u_T := fun k => match k with
  | 0 => ("SixNet$Parts", "whole", "LSixNet$Packet;", true)
  | 1 => ("SixNet$Parts", "first", "LSixNet$Packet;", true)
  | 2 => ("SixNet$Parts", "there", "[Z", true)
  | 3 => ("SixNet$Parts", "fromHigh", "J", false)
  | 4 => ("SixNet$Parts", "fromLow", "J", false)
  | 5 => ("SixNet$Parts", "number", "I", false)
  | 6 => ("SixNet$Parts", "until", "I", false)
  | _ => ("SixNet$Parts", "total", "I", false)
def RX8 : String := "SixNet$Route"
def TX8 : u_T := fun k => match k with
  | 0 => ("SixNet$Route", "prefix", "J", false)
  | 1 => ("SixNet$Route", "length", "I", false)
  | 2 => ("SixNet$Route", "metric", "I", false)
  | 3 => ("SixNet$Route", "face", "I", false)
  | 4 => ("SixNet$Route", "low", "J", false)
  | 5 => ("SixNet$Route", "until", "I", false)
  | _ => ("SixNet$Route", "changed", "Z", false)
def RX9 : String := "SixNet$Row"
def TX9 : u_T := fun k => match k with
  | 0 => ("SixNet$Row", "items", "[LSixNet$Packet;", true)
  | _ => ("SixNet$Row", "count", "I", false)
def tyX9 : Nat → FieldType := fun k => match k with
  | 0 => .array (.object "SixNet$Packet")
  | _ => .int
abbrev wsX90 : List Cond := u_ws RX9 TX9 2
theorem nmX9 : ∀ a, a < 2 → ∀ b, b < 2 → a ≠ b → (TX9 a).2.1 ≠ (TX9 b).2.1 := by decide +kernel
theorem tyX9_ok : ∀ k, k < 2 → parseFieldDescriptor (TX9 k).2.2.1 = some (tyX9 k) := by decide +kernel
abbrev cX9_init : ByteArray := prog_11_method_1_code
def yX9_init : MethodName := ⟨RX9, "<init>", "(I)V"⟩
abbrev cX9_at : ByteArray := prog_11_method_2_code
def yX9_at : MethodName := ⟨RX9, "at", "(I)LSixNet$Packet;"⟩
def RX10 : String := "SixNet$Talk"
def TX10 : u_T := fun k => match k with
  | 0 => ("SixNet$Talk", "from", "I", true)
  | 1 => ("SixNet$Talk", "to", "I", true)
  | 2 => ("SixNet$Talk", "lengths", "[I", true)
  | 3 => ("SixNet$Talk", "seeds", "[I", true)
  | 4 => ("SixNet$Talk", "heardLengths", "[I", true)
  | 5 => ("SixNet$Talk", "digests", "[I", true)
  | 6 => ("SixNet$Talk", "count", "I", false)
  | 7 => ("SixNet$Talk", "answered", "I", false)
  | 8 => ("SixNet$Talk", "heard", "I", false)
  | 9 => ("SixNet$Talk", "due", "I", false)
  | 10 => ("SixNet$Talk", "pause", "I", false)
  | _ => ("SixNet$Talk", "tried", "Z", false)
def RX11 : String := "SixNet"
def TX11 : u_T := fun k => match k with
  | 0 => ("SixNet", "nodes", "[LSixNet$Node;", true)
  | 1 => ("SixNet", "links", "[LSixNet$Link;", true)
  | 2 => ("SixNet", "faces", "[LSixNet$Face;", true)
  | 3 => ("SixNet", "talks", "[LSixNet$Talk;", true)
  | 4 => ("SixNet", "flight", "LSixNet$Row;", true)
  | 5 => ("SixNet", "waits", "LSixNet$Row;", true)
  | 6 => ("SixNet", "failed", "[LSixNet$Packet;", true)
  | 7 => ("SixNet", "draft", "LSixNet$Packet;", true)
  | 8 => ("SixNet", "hop", "LSixNet$Hop;", true)
  | 9 => ("SixNet", "nodeCount", "I", false)
  | 10 => ("SixNet", "linkCount", "I", false)
  | 11 => ("SixNet", "faceCount", "I", false)
  | 12 => ("SixNet", "messageCount", "I", false)
  | 13 => ("SixNet", "arriving", "LSixNet$Packet;", false)
  | 14 => ("SixNet", "came", "LSixNet$Packet;", false)
  | 15 => ("SixNet", "going", "LSixNet$Packet;", false)
  | 16 => ("SixNet", "now", "I", false)
  | 17 => ("SixNet", "framesSent", "I", false)
  | 18 => ("SixNet", "lost", "I", false)
  | _ => ("SixNet", "status", "I", false)
def tyX11 : Nat → FieldType := fun k => match k with
  | 0 => .array (.object "SixNet$Node")
  | 1 => .array (.object "SixNet$Link")
  | 2 => .array (.object "SixNet$Face")
  | 3 => .array (.object "SixNet$Talk")
  | 4 => .object "SixNet$Row"
  | 5 => .object "SixNet$Row"
  | 6 => .array (.object "SixNet$Packet")
  | 7 => .object "SixNet$Packet"
  | 8 => .object "SixNet$Hop"
  | 9 => .int
  | 10 => .int
  | 11 => .int
  | 12 => .int
  | 13 => .object "SixNet$Packet"
  | 14 => .object "SixNet$Packet"
  | 15 => .object "SixNet$Packet"
  | 16 => .int
  | 17 => .int
  | 18 => .int
  | _ => .int
abbrev wsX110 : List Cond := u_ws RX11 TX11 20
theorem nmX11 : ∀ a, a < 20 → ∀ b, b < 20 → a ≠ b → (TX11 a).2.1 ≠ (TX11 b).2.1 := by decide +kernel
theorem tyX11_ok : ∀ k, k < 20 → parseFieldDescriptor (TX11 k).2.2.1 = some (tyX11 k) := by decide +kernel
abbrev cX11_init : ByteArray := prog_1_method_1_code
def yX11_init : MethodName := ⟨RX11, "<init>", "()V"⟩
abbrev cX11_node : ByteArray := prog_1_method_2_code
def yX11_node : MethodName := ⟨RX11, "node", "(Z)I"⟩
abbrev cX11_link : ByteArray := prog_1_method_3_code
def yX11_link : MethodName := ⟨RX11, "link", "(JI)I"⟩
abbrev cX11_attach : ByteArray := prog_1_method_4_code
def yX11_attach : MethodName := ⟨RX11, "attach", "(IIJJ)I"⟩
abbrev cX11_own : ByteArray := prog_1_method_5_code
def yX11_own : MethodName := ⟨RX11, "own", "(IJI)I"⟩
abbrev cX11_message : ByteArray := prog_1_method_6_code
def yX11_message : MethodName := ⟨RX11, "message", "(IIII)I"⟩
abbrev cX11_echo : ByteArray := prog_1_method_7_code
def yX11_echo : MethodName := ⟨RX11, "echo", "(IJJI)I"⟩
abbrev cX11_tick : ByteArray := prog_1_method_8_code
def yX11_tick : MethodName := ⟨RX11, "tick", "(I)I"⟩
abbrev cX11_deliver : ByteArray := prog_1_method_9_code
def yX11_deliver : MethodName := ⟨RX11, "deliver", "(I)I"⟩
abbrev cX11_drop : ByteArray := prog_1_method_10_code
def yX11_drop : MethodName := ⟨RX11, "drop", "(I)I"⟩
abbrev cX11_twice : ByteArray := prog_1_method_11_code
def yX11_twice : MethodName := ⟨RX11, "twice", "(I)I"⟩
abbrev cX11_hurry : ByteArray := prog_1_method_12_code
def yX11_hurry : MethodName := ⟨RX11, "hurry", "(I)I"⟩
abbrev cX11_raise : ByteArray := prog_1_method_13_code
def yX11_raise : MethodName := ⟨RX11, "raise", "(IZ)I"⟩
abbrev cX11_frames : ByteArray := prog_1_method_14_code
def yX11_frames : MethodName := ⟨RX11, "frames", "()I"⟩
abbrev cX11_frame : ByteArray := prog_1_method_15_code
def yX11_frame : MethodName := ⟨RX11, "frame", "(II)I"⟩
abbrev cX11_bytes : ByteArray := prog_1_method_16_code
def yX11_bytes : MethodName := ⟨RX11, "bytes", "(II)J"⟩
abbrev cX11_face : ByteArray := prog_1_method_17_code
def yX11_face : MethodName := ⟨RX11, "face", "(II)I"⟩
abbrev cX11_id : ByteArray := prog_1_method_18_code
def yX11_id : MethodName := ⟨RX11, "id", "(II)J"⟩
abbrev cX11_entry : ByteArray := prog_1_method_19_code
def yX11_entry : MethodName := ⟨RX11, "entry", "(III)J"⟩
abbrev cX11_routes : ByteArray := prog_1_method_20_code
def yX11_routes : MethodName := ⟨RX11, "routes", "(I)I"⟩
abbrev cX11_route : ByteArray := prog_1_method_21_code
def yX11_route : MethodName := ⟨RX11, "route", "(III)J"⟩
abbrev cX11_way : ByteArray := prog_1_method_22_code
def yX11_way : MethodName := ⟨RX11, "way", "(IJ)I"⟩
abbrev cX11_heard : ByteArray := prog_1_method_23_code
def yX11_heard : MethodName := ⟨RX11, "heard", "(II)I"⟩
abbrev cX11_got : ByteArray := prog_1_method_24_code
def yX11_got : MethodName := ⟨RX11, "got", "(IIII)I"⟩
abbrev cX11_sent : ByteArray := prog_1_method_25_code
def yX11_sent : MethodName := ⟨RX11, "sent", "(III)I"⟩
abbrev cX11_mtu : ByteArray := prog_1_method_26_code
def yX11_mtu : MethodName := ⟨RX11, "mtu", "(IJJ)I"⟩
abbrev cX11_count : ByteArray := prog_1_method_27_code
def yX11_count : MethodName := ⟨RX11, "count", "(II)I"⟩
abbrev cX11_world : ByteArray := prog_1_method_28_code
def yX11_world : MethodName := ⟨RX11, "world", "(I)I"⟩
abbrev cX11_status : ByteArray := prog_1_method_29_code
def yX11_status : MethodName := ⟨RX11, "status", "()I"⟩
abbrev cX11_refuse : ByteArray := prog_1_method_30_code
def yX11_refuse : MethodName := ⟨RX11, "refuse", "(I)I"⟩
abbrev cX11_answer : ByteArray := prog_1_method_31_code
def yX11_answer : MethodName := ⟨RX11, "answer", "(I)I"⟩
abbrev cX11_nodeAt : ByteArray := prog_1_method_32_code
def yX11_nodeAt : MethodName := ⟨RX11, "nodeAt", "(I)LSixNet$Node;"⟩
abbrev cX11_linkAt : ByteArray := prog_1_method_33_code
def yX11_linkAt : MethodName := ⟨RX11, "linkAt", "(I)LSixNet$Link;"⟩
abbrev cX11_faceAt : ByteArray := prog_1_method_34_code
def yX11_faceAt : MethodName := ⟨RX11, "faceAt", "(I)LSixNet$Face;"⟩
abbrev cX11_whyNotHosts : ByteArray := prog_1_method_36_code
def yX11_whyNotHosts : MethodName := ⟨RX11, "whyNotHosts", "(II)I"⟩
abbrev cX11_isGlobal : ByteArray := prog_1_method_38_code
def yX11_isGlobal : MethodName := ⟨RX11, "isGlobal", "(J)Z"⟩
abbrev cX11_dropOldFrames : ByteArray := prog_1_method_44_code
def yX11_dropOldFrames : MethodName := ⟨RX11, "dropOldFrames", "()V"⟩
def RX12 : String := "SixNetModel"
def TX12 : u_T := fun k => match k with
  | 0 => ("SixNetModel", "now", "I", false)
  | 1 => ("SixNetModel", "nodes", "I", false)
  | 2 => ("SixNetModel", "isRouter", "[Z", true)
  | 3 => ("SixNetModel", "links", "I", false)
  | 4 => ("SixNetModel", "prefix", "[J", true)
  | 5 => ("SixNetModel", "mtuOf", "[I", true)
  | 6 => ("SixNetModel", "isUp", "[Z", true)
  | 7 => ("SixNetModel", "faces", "I", false)
  | 8 => ("SixNetModel", "nodeOf", "[I", true)
  | 9 => ("SixNetModel", "linkOf", "[I", true)
  | 10 => ("SixNetModel", "mac", "[J", true)
  | 11 => ("SixNetModel", "idOf", "[J", true)
  | 12 => ("SixNetModel", "global", "[I", true)
  | 13 => ("SixNetModel", "trialUntil", "[I", true)
  | 14 => ("SixNetModel", "status", "I", false)
  | 15 => ("SixNetModel", "sentFrames", "I", false)
  | 16 => ("SixNetModel", "lost", "I", false)
  | 17 => ("SixNetModel", "rows", "[[B", true)
  | 18 => ("SixNetModel", "sizes", "[I", true)
  | 19 => ("SixNetModel", "taken", "I", false)
  | 20 => ("SixNetModel", "frameBytes", "[[B", true)
  | 21 => ("SixNetModel", "frameSize", "[I", true)
  | 22 => ("SixNetModel", "frameFace", "[I", true)
  | 23 => ("SixNetModel", "frameTick", "[I", true)
  | 24 => ("SixNetModel", "isFlying", "[Z", true)
  | 25 => ("SixNetModel", "flight", "[I", true)
  | 26 => ("SixNetModel", "flying", "I", false)
  | 27 => ("SixNetModel", "entryMany", "[I", true)
  | 28 => ("SixNetModel", "entryHigh", "[J", true)
  | 29 => ("SixNetModel", "entryLow", "[J", true)
  | 30 => ("SixNetModel", "entryMac", "[J", true)
  | 31 => ("SixNetModel", "entryState", "[I", true)
  | 32 => ("SixNetModel", "entryUntil", "[I", true)
  | 33 => ("SixNetModel", "entryTries", "[I", true)
  | 34 => ("SixNetModel", "entryWaits", "[I", true)
  | 35 => ("SixNetModel", "entryWait", "[I", true)
  | 36 => ("SixNetModel", "waitBytes", "[[B", true)
  | 37 => ("SixNetModel", "waitSize", "[I", true)
  | 38 => ("SixNetModel", "isWaiting", "[Z", true)
  | 39 => ("SixNetModel", "waitingAll", "I", false)
  | 40 => ("SixNetModel", "routerMany", "[I", true)
  | 41 => ("SixNetModel", "routerLow", "[J", true)
  | 42 => ("SixNetModel", "routerUntil", "[I", true)
  | 43 => ("SixNetModel", "linkUntil", "[I", true)
  | 44 => ("SixNetModel", "mtuMany", "[I", true)
  | 45 => ("SixNetModel", "mtuHigh", "[J", true)
  | 46 => ("SixNetModel", "mtuLow", "[J", true)
  | 47 => ("SixNetModel", "mtuValue", "[I", true)
  | 48 => ("SixNetModel", "mtuUntil", "[I", true)
  | 49 => ("SixNetModel", "cuts", "[I", true)
  | 50 => ("SixNetModel", "partMany", "[I", true)
  | 51 => ("SixNetModel", "partHigh", "[J", true)
  | 52 => ("SixNetModel", "partLow", "[J", true)
  | 53 => ("SixNetModel", "partNumber", "[J", true)
  | 54 => ("SixNetModel", "partUntil", "[I", true)
  | 55 => ("SixNetModel", "partAll", "[I", true)
  | 56 => ("SixNetModel", "partRow", "[I", true)
  | 57 => ("SixNetModel", "partBytes", "[[B", true)
  | 58 => ("SixNetModel", "isThere", "[[Z", true)
  | 59 => ("SixNetModel", "partFirst", "[[B", true)
  | 60 => ("SixNetModel", "partFirstSize", "[I", true)
  | 61 => ("SixNetModel", "counted", "[I", true)
  | 62 => ("SixNetModel", "isUsed", "[Z", true)
  | 63 => ("SixNetModel", "routeMany", "[I", true)
  | 64 => ("SixNetModel", "routePrefix", "[J", true)
  | 65 => ("SixNetModel", "routeLength", "[I", true)
  | 66 => ("SixNetModel", "routeMetric", "[I", true)
  | 67 => ("SixNetModel", "routeFace", "[I", true)
  | 68 => ("SixNetModel", "routeLow", "[J", true)
  | 69 => ("SixNetModel", "routeUntil", "[I", true)
  | 70 => ("SixNetModel", "isChanged", "[Z", true)
  | 71 => ("SixNetModel", "messageMany", "I", false)
  | 72 => ("SixNetModel", "messagePair", "[I", true)
  | 73 => ("SixNetModel", "messageSize", "[I", true)
  | 74 => ("SixNetModel", "messageSeed", "[I", true)
  | 75 => ("SixNetModel", "messageNumber", "[I", true)
  | 76 => ("SixNetModel", "gotSize", "[I", true)
  | 77 => ("SixNetModel", "gotSum", "[I", true)
  | 78 => ("SixNetModel", "toldMany", "[I", true)
  | 79 => ("SixNetModel", "answeredMany", "[I", true)
  | 80 => ("SixNetModel", "heardMany", "[I", true)
  | 81 => ("SixNetModel", "due", "[I", true)
  | 82 => ("SixNetModel", "pause", "[I", true)
  | _ => ("SixNetModel", "isSent", "[Z", true)
def tyX12 : Nat → FieldType := fun k => match k with
  | 0 => .int
  | 1 => .int
  | 2 => .array .boolean
  | 3 => .int
  | 4 => .array .long
  | 5 => .array .int
  | 6 => .array .boolean
  | 7 => .int
  | 8 => .array .int
  | 9 => .array .int
  | 10 => .array .long
  | 11 => .array .long
  | 12 => .array .int
  | 13 => .array .int
  | 14 => .int
  | 15 => .int
  | 16 => .int
  | 17 => .array (.array .byte)
  | 18 => .array .int
  | 19 => .int
  | 20 => .array (.array .byte)
  | 21 => .array .int
  | 22 => .array .int
  | 23 => .array .int
  | 24 => .array .boolean
  | 25 => .array .int
  | 26 => .int
  | 27 => .array .int
  | 28 => .array .long
  | 29 => .array .long
  | 30 => .array .long
  | 31 => .array .int
  | 32 => .array .int
  | 33 => .array .int
  | 34 => .array .int
  | 35 => .array .int
  | 36 => .array (.array .byte)
  | 37 => .array .int
  | 38 => .array .boolean
  | 39 => .int
  | 40 => .array .int
  | 41 => .array .long
  | 42 => .array .int
  | 43 => .array .int
  | 44 => .array .int
  | 45 => .array .long
  | 46 => .array .long
  | 47 => .array .int
  | 48 => .array .int
  | 49 => .array .int
  | 50 => .array .int
  | 51 => .array .long
  | 52 => .array .long
  | 53 => .array .long
  | 54 => .array .int
  | 55 => .array .int
  | 56 => .array .int
  | 57 => .array (.array .byte)
  | 58 => .array (.array .boolean)
  | 59 => .array (.array .byte)
  | 60 => .array .int
  | 61 => .array .int
  | 62 => .array .boolean
  | 63 => .array .int
  | 64 => .array .long
  | 65 => .array .int
  | 66 => .array .int
  | 67 => .array .int
  | 68 => .array .long
  | 69 => .array .int
  | 70 => .array .boolean
  | 71 => .int
  | 72 => .array .int
  | 73 => .array .int
  | 74 => .array .int
  | 75 => .array .int
  | 76 => .array .int
  | 77 => .array .int
  | 78 => .array .int
  | 79 => .array .int
  | 80 => .array .int
  | 81 => .array .int
  | 82 => .array .int
  | _ => .array .boolean
abbrev wsX120 : List Cond := u_ws RX12 TX12 84
theorem nmX12 : ∀ a, a < 84 → ∀ b, b < 84 → a ≠ b → (TX12 a).2.1 ≠ (TX12 b).2.1 := by decide +kernel
theorem tyX12_ok : ∀ k, k < 84 → parseFieldDescriptor (TX12 k).2.2.1 = some (tyX12 k) := by decide +kernel
abbrev cX12_no : ByteArray := prog_14_method_2_code
def yX12_no : MethodName := ⟨RX12, "no", "(I)I"⟩
abbrev cX12_yes : ByteArray := prog_14_method_3_code
def yX12_yes : MethodName := ⟨RX12, "yes", "(I)I"⟩
abbrev cX12_isIn : ByteArray := prog_14_method_4_code
def yX12_isIn : MethodName := ⟨RX12, "isIn", "(JJJ)Z"⟩
abbrev cX12_isNode : ByteArray := prog_14_method_5_code
def yX12_isNode : MethodName := ⟨RX12, "isNode", "(I)Z"⟩
abbrev cX12_node : ByteArray := prog_14_method_84_code
def yX12_node : MethodName := ⟨RX12, "node", "(Z)I"⟩
abbrev cX12_link : ByteArray := prog_14_method_85_code
def yX12_link : MethodName := ⟨RX12, "link", "(JI)I"⟩
abbrev cX12_attach : ByteArray := prog_14_method_86_code
def yX12_attach : MethodName := ⟨RX12, "attach", "(IIJJ)I"⟩
abbrev cX12_own : ByteArray := prog_14_method_87_code
def yX12_own : MethodName := ⟨RX12, "own", "(IJI)I"⟩
abbrev cX12_message : ByteArray := prog_14_method_88_code
def yX12_message : MethodName := ⟨RX12, "message", "(IIII)I"⟩
abbrev cX12_echo : ByteArray := prog_14_method_89_code
def yX12_echo : MethodName := ⟨RX12, "echo", "(IJJI)I"⟩
abbrev cX12_tickOnce : ByteArray := prog_14_method_92_code
def yX12_tickOnce : MethodName := ⟨RX12, "tickOnce", "()V"⟩
abbrev cX12_tick : ByteArray := prog_14_method_93_code
def yX12_tick : MethodName := ⟨RX12, "tick", "(I)I"⟩
abbrev cX12_isFrame : ByteArray := prog_14_method_95_code
def yX12_isFrame : MethodName := ⟨RX12, "isFrame", "(I)Z"⟩
abbrev cX12_deliver : ByteArray := prog_14_method_96_code
def yX12_deliver : MethodName := ⟨RX12, "deliver", "(I)I"⟩
abbrev cX12_drop : ByteArray := prog_14_method_97_code
def yX12_drop : MethodName := ⟨RX12, "drop", "(I)I"⟩
abbrev cX12_twice : ByteArray := prog_14_method_98_code
def yX12_twice : MethodName := ⟨RX12, "twice", "(I)I"⟩
abbrev cX12_hurry : ByteArray := prog_14_method_99_code
def yX12_hurry : MethodName := ⟨RX12, "hurry", "(I)I"⟩
abbrev cX12_raise : ByteArray := prog_14_method_100_code
def yX12_raise : MethodName := ⟨RX12, "raise", "(IZ)I"⟩
abbrev cX12_frames : ByteArray := prog_14_method_101_code
def yX12_frames : MethodName := ⟨RX12, "frames", "()I"⟩
abbrev cX12_frame : ByteArray := prog_14_method_102_code
def yX12_frame : MethodName := ⟨RX12, "frame", "(II)I"⟩
abbrev cX12_bytes : ByteArray := prog_14_method_103_code
def yX12_bytes : MethodName := ⟨RX12, "bytes", "(II)J"⟩
abbrev cX12_face : ByteArray := prog_14_method_104_code
def yX12_face : MethodName := ⟨RX12, "face", "(II)I"⟩
abbrev cX12_id : ByteArray := prog_14_method_105_code
def yX12_id : MethodName := ⟨RX12, "id", "(II)J"⟩
abbrev cX12_entry : ByteArray := prog_14_method_106_code
def yX12_entry : MethodName := ⟨RX12, "entry", "(III)J"⟩
abbrev cX12_routerWhy : ByteArray := prog_14_method_107_code
def yX12_routerWhy : MethodName := ⟨RX12, "routerWhy", "(I)I"⟩
abbrev cX12_routes : ByteArray := prog_14_method_108_code
def yX12_routes : MethodName := ⟨RX12, "routes", "(I)I"⟩
abbrev cX12_route : ByteArray := prog_14_method_109_code
def yX12_route : MethodName := ⟨RX12, "route", "(III)J"⟩
abbrev cX12_way : ByteArray := prog_14_method_110_code
def yX12_way : MethodName := ⟨RX12, "way", "(IJ)I"⟩
abbrev cX12_hostsWhy : ByteArray := prog_14_method_111_code
def yX12_hostsWhy : MethodName := ⟨RX12, "hostsWhy", "(II)I"⟩
abbrev cX12_heard : ByteArray := prog_14_method_112_code
def yX12_heard : MethodName := ⟨RX12, "heard", "(II)I"⟩
abbrev cX12_got : ByteArray := prog_14_method_113_code
def yX12_got : MethodName := ⟨RX12, "got", "(IIII)I"⟩
abbrev cX12_sent : ByteArray := prog_14_method_114_code
def yX12_sent : MethodName := ⟨RX12, "sent", "(III)I"⟩
abbrev cX12_mtu : ByteArray := prog_14_method_115_code
def yX12_mtu : MethodName := ⟨RX12, "mtu", "(IJJ)I"⟩
abbrev cX12_count : ByteArray := prog_14_method_116_code
def yX12_count : MethodName := ⟨RX12, "count", "(II)I"⟩
abbrev cX12_world : ByteArray := prog_14_method_117_code
def yX12_world : MethodName := ⟨RX12, "world", "(I)I"⟩
abbrev cX12_status : ByteArray := prog_14_method_118_code
def yX12_status : MethodName := ⟨RX12, "status", "()I"⟩
theorem dX2_init_0 : decode cX2_init 0 = .ok (.aload_n 0, 1) := by decide +kernel
theorem dX2_init_1 : decode cX2_init 1 = .ok (.invokespecial 1, 3) := by decide +kernel
theorem dX2_init_4 : decode cX2_init 4 = .ok (.return_, 1) := by decide +kernel
theorem dX3_init_0 : decode cX3_init 0 = .ok (.aload_n 0, 1) := by decide +kernel
theorem dX3_init_1 : decode cX3_init 1 = .ok (.invokespecial 1, 3) := by decide +kernel
theorem dX3_init_4 : decode cX3_init 4 = .ok (.aload_n 0, 1) := by decide +kernel
theorem dX3_init_5 : decode cX3_init 5 = .ok (.iconst 1, 1) := by decide +kernel
theorem dX3_init_6 : decode cX3_init 6 = .ok (.putfield 7, 3) := by decide +kernel
theorem dX3_init_9 : decode cX3_init 9 = .ok (.aload_n 0, 1) := by decide +kernel
theorem dX3_init_10 : decode cX3_init 10 = .ok (.iload_n 1, 1) := by decide +kernel
theorem dX3_init_11 : decode cX3_init 11 = .ok (.putfield 13, 3) := by decide +kernel
theorem dX3_init_14 : decode cX3_init 14 = .ok (.aload_n 0, 1) := by decide +kernel
theorem dX3_init_15 : decode cX3_init 15 = .ok (.lload_n 2, 1) := by decide +kernel
theorem dX3_init_16 : decode cX3_init 16 = .ok (.putfield 17, 3) := by decide +kernel
theorem dX3_init_19 : decode cX3_init 19 = .ok (.aload_n 0, 1) := by decide +kernel
theorem dX3_init_20 : decode cX3_init 20 = .ok (.iload 4, 2) := by decide +kernel
theorem dX3_init_22 : decode cX3_init 22 = .ok (.putfield 21, 3) := by decide +kernel
theorem dX3_init_25 : decode cX3_init 25 = .ok (.return_, 1) := by decide +kernel
theorem dX4_init_0 : decode cX4_init 0 = .ok (.aload_n 0, 1) := by decide +kernel
theorem dX4_init_1 : decode cX4_init 1 = .ok (.invokespecial 3, 3) := by decide +kernel
theorem dX4_init_4 : decode cX4_init 4 = .ok (.aload_n 0, 1) := by decide +kernel
theorem dX4_init_5 : decode cX4_init 5 = .ok (.bipush 12, 2) := by decide +kernel
theorem dX4_init_7 : decode cX4_init 7 = .ok (.newarray .long, 2) := by decide +kernel
theorem dX4_init_9 : decode cX4_init 9 = .ok (.putfield 9, 3) := by decide +kernel
theorem dX4_init_12 : decode cX4_init 12 = .ok (.aload_n 0, 1) := by decide +kernel
theorem dX4_init_13 : decode cX4_init 13 = .ok (.bipush 12, 2) := by decide +kernel
theorem dX4_init_15 : decode cX4_init 15 = .ok (.newarray .long, 2) := by decide +kernel
theorem dX4_init_17 : decode cX4_init 17 = .ok (.putfield 15, 3) := by decide +kernel
theorem dX4_init_20 : decode cX4_init 20 = .ok (.aload_n 0, 1) := by decide +kernel
theorem dX4_init_21 : decode cX4_init 21 = .ok (.bipush 12, 2) := by decide +kernel
theorem dX4_init_23 : decode cX4_init 23 = .ok (.newarray .int, 2) := by decide +kernel
theorem dX4_init_25 : decode cX4_init 25 = .ok (.putfield 18, 3) := by decide +kernel
theorem dX4_init_28 : decode cX4_init 28 = .ok (.aload_n 0, 1) := by decide +kernel
theorem dX4_init_29 : decode cX4_init 29 = .ok (.bipush 12, 2) := by decide +kernel
theorem dX4_init_31 : decode cX4_init 31 = .ok (.newarray .int, 2) := by decide +kernel
theorem dX4_init_33 : decode cX4_init 33 = .ok (.putfield 22, 3) := by decide +kernel
theorem dX4_init_36 : decode cX4_init 36 = .ok (.return_, 1) := by decide +kernel
theorem dX5_init_0 : decode cX5_init 0 = .ok (.aload_n 0, 1) := by decide +kernel
theorem dX5_init_1 : decode cX5_init 1 = .ok (.invokespecial 3, 3) := by decide +kernel
theorem dX5_init_4 : decode cX5_init 4 = .ok (.aload_n 0, 1) := by decide +kernel
theorem dX5_init_5 : decode cX5_init 5 = .ok (.iconst 4, 1) := by decide +kernel
theorem dX5_init_6 : decode cX5_init 6 = .ok (.anewarray 9, 3) := by decide +kernel
theorem dX5_init_9 : decode cX5_init 9 = .ok (.putfield 11, 3) := by decide +kernel
theorem dX5_init_12 : decode cX5_init 12 = .ok (.aload_n 0, 1) := by decide +kernel
theorem dX5_init_13 : decode cX5_init 13 = .ok (.new 17, 3) := by decide +kernel
theorem dX5_init_16 : decode cX5_init 16 = .ok (.dup, 1) := by decide +kernel
theorem dX5_init_17 : decode cX5_init 17 = .ok (.invokespecial 19, 3) := by decide +kernel
theorem dX5_init_20 : decode cX5_init 20 = .ok (.putfield 20, 3) := by decide +kernel
theorem dX5_init_23 : decode cX5_init 23 = .ok (.aload_n 0, 1) := by decide +kernel
theorem dX5_init_24 : decode cX5_init 24 = .ok (.bipush 6, 2) := by decide +kernel
theorem dX5_init_26 : decode cX5_init 26 = .ok (.newarray .int, 2) := by decide +kernel
theorem dX5_init_28 : decode cX5_init 28 = .ok (.putfield 24, 3) := by decide +kernel
theorem dX5_init_31 : decode cX5_init 31 = .ok (.aload_n 0, 1) := by decide +kernel
theorem dX5_init_32 : decode cX5_init 32 = .ok (.iconst 4, 1) := by decide +kernel
theorem dX5_init_33 : decode cX5_init 33 = .ok (.newarray .long, 2) := by decide +kernel
theorem dX5_init_35 : decode cX5_init 35 = .ok (.putfield 28, 3) := by decide +kernel
theorem dX5_init_38 : decode cX5_init 38 = .ok (.aload_n 0, 1) := by decide +kernel
theorem dX5_init_39 : decode cX5_init 39 = .ok (.iconst 4, 1) := by decide +kernel
theorem dX5_init_40 : decode cX5_init 40 = .ok (.newarray .int, 2) := by decide +kernel
theorem dX5_init_42 : decode cX5_init 42 = .ok (.putfield 32, 3) := by decide +kernel
theorem dX5_init_45 : decode cX5_init 45 = .ok (.aload_n 0, 1) := by decide +kernel
theorem dX5_init_46 : decode cX5_init 46 = .ok (.iload_n 1, 1) := by decide +kernel
theorem dX5_init_47 : decode cX5_init 47 = .ok (.putfield 35, 3) := by decide +kernel
theorem dX5_init_50 : decode cX5_init 50 = .ok (.aload_n 0, 1) := by decide +kernel
theorem dX5_init_51 : decode cX5_init 51 = .ok (.iload_n 2, 1) := by decide +kernel
theorem dX5_init_52 : decode cX5_init 52 = .ok (.putfield 39, 3) := by decide +kernel
theorem dX5_init_55 : decode cX5_init 55 = .ok (.aload_n 0, 1) := by decide +kernel
theorem dX5_init_56 : decode cX5_init 56 = .ok (.iload_n 2, 1) := by decide +kernel
theorem dX5_init_57 : decode cX5_init 57 = .ok (.ifCond .eq 8, 3) := by decide +kernel
theorem dX5_init_60 : decode cX5_init 60 = .ok (.bipush 10, 2) := by decide +kernel
theorem dX5_init_62 : decode cX5_init 62 = .ok (.goto 4, 3) := by decide +kernel
theorem dX5_init_65 : decode cX5_init 65 = .ok (.iconst 1, 1) := by decide +kernel
theorem dX5_init_66 : decode cX5_init 66 = .ok (.anewarray 43, 3) := by decide +kernel
theorem dX5_init_69 : decode cX5_init 69 = .ok (.putfield 45, 3) := by decide +kernel
theorem dX5_init_72 : decode cX5_init 72 = .ok (.aload_n 0, 1) := by decide +kernel
theorem dX5_init_73 : decode cX5_init 73 = .ok (.iload_n 2, 1) := by decide +kernel
theorem dX5_init_74 : decode cX5_init 74 = .ok (.ifCond .eq 8, 3) := by decide +kernel
theorem dX5_init_77 : decode cX5_init 77 = .ok (.bipush 56, 2) := by decide +kernel
theorem dX5_init_79 : decode cX5_init 79 = .ok (.goto 4, 3) := by decide +kernel
theorem dX5_init_82 : decode cX5_init 82 = .ok (.iconst 0, 1) := by decide +kernel
theorem dX5_init_83 : decode cX5_init 83 = .ok (.anewarray 49, 3) := by decide +kernel
theorem dX5_init_86 : decode cX5_init 86 = .ok (.putfield 51, 3) := by decide +kernel
theorem dX5_init_89 : decode cX5_init 89 = .ok (.return_, 1) := by decide +kernel
theorem dX6_init_0 : decode cX6_init 0 = .ok (.aload_n 0, 1) := by decide +kernel
theorem dX6_init_1 : decode cX6_init 1 = .ok (.invokespecial 3, 3) := by decide +kernel
theorem dX6_init_4 : decode cX6_init 4 = .ok (.aload_n 0, 1) := by decide +kernel
theorem dX6_init_5 : decode cX6_init 5 = .ok (.iload_n 1, 1) := by decide +kernel
theorem dX6_init_6 : decode cX6_init 6 = .ok (.ifCond .le 7, 3) := by decide +kernel
theorem dX6_init_9 : decode cX6_init 9 = .ok (.iload_n 1, 1) := by decide +kernel
theorem dX6_init_10 : decode cX6_init 10 = .ok (.goto 4, 3) := by decide +kernel
theorem dX6_init_14 : decode cX6_init 14 = .ok (.newarray .byte, 2) := by decide +kernel
theorem dX6_init_16 : decode cX6_init 16 = .ok (.putfield 9, 3) := by decide +kernel
theorem dX6_init_19 : decode cX6_init 19 = .ok (.return_, 1) := by decide +kernel
theorem dX9_init_0 : decode cX9_init 0 = .ok (.aload_n 0, 1) := by decide +kernel
theorem dX9_init_1 : decode cX9_init 1 = .ok (.invokespecial 3, 3) := by decide +kernel
theorem dX9_init_4 : decode cX9_init 4 = .ok (.aload_n 0, 1) := by decide +kernel
theorem dX9_init_5 : decode cX9_init 5 = .ok (.iload_n 1, 1) := by decide +kernel
theorem dX9_init_6 : decode cX9_init 6 = .ok (.ifCond .le 7, 3) := by decide +kernel
theorem dX9_init_9 : decode cX9_init 9 = .ok (.iload_n 1, 1) := by decide +kernel
theorem dX9_init_10 : decode cX9_init 10 = .ok (.goto 4, 3) := by decide +kernel
theorem dX9_init_14 : decode cX9_init 14 = .ok (.anewarray 9, 3) := by decide +kernel
theorem dX9_init_17 : decode cX9_init 17 = .ok (.putfield 11, 3) := by decide +kernel
theorem dX9_init_20 : decode cX9_init 20 = .ok (.return_, 1) := by decide +kernel
theorem dX9_at_0 : decode cX9_at 0 = .ok (.iload_n 1, 1) := by decide +kernel
theorem dX9_at_1 : decode cX9_at 1 = .ok (.ifCond .lt 29, 3) := by decide +kernel
theorem dX9_at_4 : decode cX9_at 4 = .ok (.iload_n 1, 1) := by decide +kernel
theorem dX9_at_5 : decode cX9_at 5 = .ok (.aload_n 0, 1) := by decide +kernel
theorem dX9_at_6 : decode cX9_at 6 = .ok (.getfield 17, 3) := by decide +kernel
theorem dX9_at_9 : decode cX9_at 9 = .ok (.if_icmp .ge 21, 3) := by decide +kernel
theorem dX9_at_30 : decode cX9_at 30 = .ok (.aconst_null, 1) := by decide +kernel
theorem dX9_at_31 : decode cX9_at 31 = .ok (.areturn, 1) := by decide +kernel
theorem dX11_init_0 : decode cX11_init 0 = .ok (.aload_n 0, 1) := by decide +kernel
theorem dX11_init_1 : decode cX11_init 1 = .ok (.invokespecial 3, 3) := by decide +kernel
theorem dX11_init_4 : decode cX11_init 4 = .ok (.aload_n 0, 1) := by decide +kernel
theorem dX11_init_5 : decode cX11_init 5 = .ok (.bipush 12, 2) := by decide +kernel
theorem dX11_init_7 : decode cX11_init 7 = .ok (.anewarray 9, 3) := by decide +kernel
theorem dX11_init_10 : decode cX11_init 10 = .ok (.putfield 11, 3) := by decide +kernel
theorem dX11_init_13 : decode cX11_init 13 = .ok (.aload_n 0, 1) := by decide +kernel
theorem dX11_init_14 : decode cX11_init 14 = .ok (.bipush 10, 2) := by decide +kernel
theorem dX11_init_16 : decode cX11_init 16 = .ok (.anewarray 15, 3) := by decide +kernel
theorem dX11_init_19 : decode cX11_init 19 = .ok (.putfield 17, 3) := by decide +kernel
theorem dX11_init_22 : decode cX11_init 22 = .ok (.aload_n 0, 1) := by decide +kernel
theorem dX11_init_23 : decode cX11_init 23 = .ok (.bipush 24, 2) := by decide +kernel
theorem dX11_init_25 : decode cX11_init 25 = .ok (.anewarray 21, 3) := by decide +kernel
theorem dX11_init_28 : decode cX11_init 28 = .ok (.putfield 23, 3) := by decide +kernel
theorem dX11_init_31 : decode cX11_init 31 = .ok (.aload_n 0, 1) := by decide +kernel
theorem dX11_init_32 : decode cX11_init 32 = .ok (.sipush 144, 3) := by decide +kernel
theorem dX11_init_35 : decode cX11_init 35 = .ok (.anewarray 27, 3) := by decide +kernel
theorem dX11_init_38 : decode cX11_init 38 = .ok (.putfield 29, 3) := by decide +kernel
theorem dX11_init_41 : decode cX11_init 41 = .ok (.aload_n 0, 1) := by decide +kernel
theorem dX11_init_42 : decode cX11_init 42 = .ok (.new 33, 3) := by decide +kernel
theorem dX11_init_45 : decode cX11_init 45 = .ok (.dup, 1) := by decide +kernel
theorem dX11_init_46 : decode cX11_init 46 = .ok (.bipush 96, 2) := by decide +kernel
theorem dX11_init_48 : decode cX11_init 48 = .ok (.invokespecial 35, 3) := by decide +kernel
theorem dX11_init_51 : decode cX11_init 51 = .ok (.putfield 38, 3) := by decide +kernel
theorem dX11_init_54 : decode cX11_init 54 = .ok (.aload_n 0, 1) := by decide +kernel
theorem dX11_init_55 : decode cX11_init 55 = .ok (.new 33, 3) := by decide +kernel
theorem dX11_init_58 : decode cX11_init 58 = .ok (.dup, 1) := by decide +kernel
theorem dX11_init_59 : decode cX11_init 59 = .ok (.bipush 48, 2) := by decide +kernel
theorem dX11_init_61 : decode cX11_init 61 = .ok (.invokespecial 35, 3) := by decide +kernel
theorem dX11_init_64 : decode cX11_init 64 = .ok (.putfield 42, 3) := by decide +kernel
theorem dX11_init_67 : decode cX11_init 67 = .ok (.aload_n 0, 1) := by decide +kernel
theorem dX11_init_68 : decode cX11_init 68 = .ok (.iconst 3, 1) := by decide +kernel
theorem dX11_init_69 : decode cX11_init 69 = .ok (.anewarray 45, 3) := by decide +kernel
theorem dX11_init_72 : decode cX11_init 72 = .ok (.putfield 47, 3) := by decide +kernel
theorem dX11_init_75 : decode cX11_init 75 = .ok (.aload_n 0, 1) := by decide +kernel
theorem dX11_init_76 : decode cX11_init 76 = .ok (.new 45, 3) := by decide +kernel
theorem dX11_init_79 : decode cX11_init 79 = .ok (.dup, 1) := by decide +kernel
theorem dX11_init_80 : decode cX11_init 80 = .ok (.sipush 1514, 3) := by decide +kernel
theorem dX11_init_83 : decode cX11_init 83 = .ok (.invokespecial 51, 3) := by decide +kernel
theorem dX11_init_86 : decode cX11_init 86 = .ok (.putfield 52, 3) := by decide +kernel
theorem dX11_init_89 : decode cX11_init 89 = .ok (.aload_n 0, 1) := by decide +kernel
theorem dX11_init_90 : decode cX11_init 90 = .ok (.new 56, 3) := by decide +kernel
theorem dX11_init_93 : decode cX11_init 93 = .ok (.dup, 1) := by decide +kernel
theorem dX11_init_94 : decode cX11_init 94 = .ok (.invokespecial 58, 3) := by decide +kernel
theorem dX11_init_97 : decode cX11_init 97 = .ok (.putfield 59, 3) := by decide +kernel
theorem dX11_init_100 : decode cX11_init 100 = .ok (.aload_n 0, 1) := by decide +kernel
theorem dX11_init_101 : decode cX11_init 101 = .ok (.new 45, 3) := by decide +kernel
theorem dX11_init_104 : decode cX11_init 104 = .ok (.dup, 1) := by decide +kernel
theorem dX11_init_105 : decode cX11_init 105 = .ok (.sipush 1514, 3) := by decide +kernel
theorem dX11_init_108 : decode cX11_init 108 = .ok (.invokespecial 51, 3) := by decide +kernel
theorem dX11_init_111 : decode cX11_init 111 = .ok (.putfield 63, 3) := by decide +kernel
theorem dX11_init_114 : decode cX11_init 114 = .ok (.aload_n 0, 1) := by decide +kernel
theorem dX11_init_115 : decode cX11_init 115 = .ok (.new 45, 3) := by decide +kernel
theorem dX11_init_118 : decode cX11_init 118 = .ok (.dup, 1) := by decide +kernel
theorem dX11_init_119 : decode cX11_init 119 = .ok (.sipush 3048, 3) := by decide +kernel
theorem dX11_init_122 : decode cX11_init 122 = .ok (.invokespecial 51, 3) := by decide +kernel
theorem dX11_init_125 : decode cX11_init 125 = .ok (.putfield 66, 3) := by decide +kernel
theorem dX11_init_128 : decode cX11_init 128 = .ok (.aload_n 0, 1) := by decide +kernel
theorem dX11_init_129 : decode cX11_init 129 = .ok (.new 45, 3) := by decide +kernel
theorem dX11_init_132 : decode cX11_init 132 = .ok (.dup, 1) := by decide +kernel
theorem dX11_init_133 : decode cX11_init 133 = .ok (.sipush 3048, 3) := by decide +kernel
theorem dX11_init_136 : decode cX11_init 136 = .ok (.invokespecial 51, 3) := by decide +kernel
theorem dX11_init_139 : decode cX11_init 139 = .ok (.putfield 69, 3) := by decide +kernel
theorem dX11_init_142 : decode cX11_init 142 = .ok (.return_, 1) := by decide +kernel
theorem dX11_node_0 : decode cX11_node 0 = .ok (.aload_n 0, 1) := by decide +kernel
theorem dX11_node_1 : decode cX11_node 1 = .ok (.getfield 72, 3) := by decide +kernel
theorem dX11_node_4 : decode cX11_node 4 = .ok (.bipush 12, 2) := by decide +kernel
theorem dX11_node_6 : decode cX11_node 6 = .ok (.if_icmp .lt 9, 3) := by decide +kernel
theorem dX11_node_15 : decode cX11_node 15 = .ok (.aload_n 0, 1) := by decide +kernel
theorem dX11_node_16 : decode cX11_node 16 = .ok (.getfield 11, 3) := by decide +kernel
theorem dX11_node_19 : decode cX11_node 19 = .ok (.aload_n 0, 1) := by decide +kernel
theorem dX11_node_20 : decode cX11_node 20 = .ok (.getfield 72, 3) := by decide +kernel
theorem dX11_node_23 : decode cX11_node 23 = .ok (.new 9, 3) := by decide +kernel
theorem dX11_node_26 : decode cX11_node 26 = .ok (.dup, 1) := by decide +kernel
theorem dX11_node_27 : decode cX11_node 27 = .ok (.aload_n 0, 1) := by decide +kernel
theorem dX11_node_28 : decode cX11_node 28 = .ok (.getfield 72, 3) := by decide +kernel
theorem dX11_node_31 : decode cX11_node 31 = .ok (.iload_n 1, 1) := by decide +kernel
theorem dX11_node_32 : decode cX11_node 32 = .ok (.invokespecial 80, 3) := by decide +kernel
theorem dX11_node_35 : decode cX11_node 35 = .ok (.aastore, 1) := by decide +kernel
theorem dX11_node_36 : decode cX11_node 36 = .ok (.aload_n 0, 1) := by decide +kernel
theorem dX11_node_37 : decode cX11_node 37 = .ok (.dup, 1) := by decide +kernel
theorem dX11_node_38 : decode cX11_node 38 = .ok (.getfield 72, 3) := by decide +kernel
theorem dX11_node_41 : decode cX11_node 41 = .ok (.iconst 1, 1) := by decide +kernel
theorem dX11_node_42 : decode cX11_node 42 = .ok (.iadd, 1) := by decide +kernel
theorem dX11_node_43 : decode cX11_node 43 = .ok (.putfield 72, 3) := by decide +kernel
theorem dX11_node_46 : decode cX11_node 46 = .ok (.aload_n 0, 1) := by decide +kernel
theorem dX11_node_47 : decode cX11_node 47 = .ok (.aload_n 0, 1) := by decide +kernel
theorem dX11_node_48 : decode cX11_node 48 = .ok (.getfield 72, 3) := by decide +kernel
theorem dX11_node_51 : decode cX11_node 51 = .ok (.iconst 1, 1) := by decide +kernel
theorem dX11_node_52 : decode cX11_node 52 = .ok (.isub, 1) := by decide +kernel
theorem dX11_node_53 : decode cX11_node 53 = .ok (.invokevirtual 83, 3) := by decide +kernel
theorem dX11_node_56 : decode cX11_node 56 = .ok (.ireturn, 1) := by decide +kernel
theorem dX11_link_0 : decode cX11_link 0 = .ok (.lload_n 1, 1) := by decide +kernel
theorem dX11_link_1 : decode cX11_link 1 = .ok (.invokestatic 86, 3) := by decide +kernel
theorem dX11_link_4 : decode cX11_link 4 = .ok (.ifCond .eq 17, 3) := by decide +kernel
theorem dX11_link_7 : decode cX11_link 7 = .ok (.iload_n 3, 1) := by decide +kernel
theorem dX11_link_8 : decode cX11_link 8 = .ok (.sipush 1280, 3) := by decide +kernel
theorem dX11_link_11 : decode cX11_link 11 = .ok (.if_icmp .lt 10, 3) := by decide +kernel
theorem dX11_link_14 : decode cX11_link 14 = .ok (.iload_n 3, 1) := by decide +kernel
theorem dX11_link_15 : decode cX11_link 15 = .ok (.sipush 1500, 3) := by decide +kernel
theorem dX11_link_18 : decode cX11_link 18 = .ok (.if_icmp .le 9, 3) := by decide +kernel
theorem dX11_link_21 : decode cX11_link 21 = .ok (.aload_n 0, 1) := by decide +kernel
theorem dX11_link_22 : decode cX11_link 22 = .ok (.iconst 4, 1) := by decide +kernel
theorem dX11_link_23 : decode cX11_link 23 = .ok (.invokevirtual 76, 3) := by decide +kernel
theorem dX11_link_26 : decode cX11_link 26 = .ok (.ireturn, 1) := by decide +kernel
theorem dX11_link_27 : decode cX11_link 27 = .ok (.aload_n 0, 1) := by decide +kernel
theorem dX11_link_28 : decode cX11_link 28 = .ok (.getfield 90, 3) := by decide +kernel
theorem dX11_link_31 : decode cX11_link 31 = .ok (.bipush 10, 2) := by decide +kernel
theorem dX11_link_33 : decode cX11_link 33 = .ok (.if_icmp .lt 9, 3) := by decide +kernel
theorem dX11_link_42 : decode cX11_link 42 = .ok (.iconst 0, 1) := by decide +kernel
theorem dX11_link_43 : decode cX11_link 43 = .ok (.istore 4, 2) := by decide +kernel
theorem dX11_link_45 : decode cX11_link 45 = .ok (.iload 4, 2) := by decide +kernel
theorem dX11_link_47 : decode cX11_link 47 = .ok (.aload_n 0, 1) := by decide +kernel
theorem dX11_link_48 : decode cX11_link 48 = .ok (.getfield 90, 3) := by decide +kernel
theorem dX11_link_51 : decode cX11_link 51 = .ok (.if_icmp .ge 40, 3) := by decide +kernel
theorem dX11_link_91 : decode cX11_link 91 = .ok (.aload_n 0, 1) := by decide +kernel
theorem dX11_link_92 : decode cX11_link 92 = .ok (.getfield 17, 3) := by decide +kernel
theorem dX11_link_95 : decode cX11_link 95 = .ok (.aload_n 0, 1) := by decide +kernel
theorem dX11_link_96 : decode cX11_link 96 = .ok (.getfield 90, 3) := by decide +kernel
theorem dX11_link_99 : decode cX11_link 99 = .ok (.new 15, 3) := by decide +kernel
theorem dX11_link_102 : decode cX11_link 102 = .ok (.dup, 1) := by decide +kernel
theorem dX11_link_103 : decode cX11_link 103 = .ok (.aload_n 0, 1) := by decide +kernel
theorem dX11_link_104 : decode cX11_link 104 = .ok (.getfield 90, 3) := by decide +kernel
theorem dX11_link_107 : decode cX11_link 107 = .ok (.lload_n 1, 1) := by decide +kernel
theorem dX11_link_108 : decode cX11_link 108 = .ok (.iload_n 3, 1) := by decide +kernel
theorem dX11_link_109 : decode cX11_link 109 = .ok (.invokespecial 97, 3) := by decide +kernel
theorem dX11_link_112 : decode cX11_link 112 = .ok (.aastore, 1) := by decide +kernel
theorem dX11_link_113 : decode cX11_link 113 = .ok (.aload_n 0, 1) := by decide +kernel
theorem dX11_link_114 : decode cX11_link 114 = .ok (.dup, 1) := by decide +kernel
theorem dX11_link_115 : decode cX11_link 115 = .ok (.getfield 90, 3) := by decide +kernel
theorem dX11_link_118 : decode cX11_link 118 = .ok (.iconst 1, 1) := by decide +kernel
theorem dX11_link_119 : decode cX11_link 119 = .ok (.iadd, 1) := by decide +kernel
theorem dX11_link_120 : decode cX11_link 120 = .ok (.putfield 90, 3) := by decide +kernel
theorem dX11_link_123 : decode cX11_link 123 = .ok (.aload_n 0, 1) := by decide +kernel
theorem dX11_link_124 : decode cX11_link 124 = .ok (.aload_n 0, 1) := by decide +kernel
theorem dX11_link_125 : decode cX11_link 125 = .ok (.getfield 90, 3) := by decide +kernel
theorem dX11_link_128 : decode cX11_link 128 = .ok (.iconst 1, 1) := by decide +kernel
theorem dX11_link_129 : decode cX11_link 129 = .ok (.isub, 1) := by decide +kernel
theorem dX11_link_130 : decode cX11_link 130 = .ok (.invokevirtual 83, 3) := by decide +kernel
theorem dX11_link_133 : decode cX11_link 133 = .ok (.ireturn, 1) := by decide +kernel
theorem dX11_attach_0 : decode cX11_attach 0 = .ok (.aload_n 0, 1) := by decide +kernel
theorem dX11_attach_1 : decode cX11_attach 1 = .ok (.iload_n 1, 1) := by decide +kernel
theorem dX11_attach_2 : decode cX11_attach 2 = .ok (.invokevirtual 100, 3) := by decide +kernel
theorem dX11_attach_5 : decode cX11_attach 5 = .ok (.astore 7, 2) := by decide +kernel
theorem dX11_attach_7 : decode cX11_attach 7 = .ok (.aload_n 0, 1) := by decide +kernel
theorem dX11_attach_8 : decode cX11_attach 8 = .ok (.iload_n 2, 1) := by decide +kernel
theorem dX11_attach_9 : decode cX11_attach 9 = .ok (.invokevirtual 104, 3) := by decide +kernel
theorem dX11_attach_12 : decode cX11_attach 12 = .ok (.astore 8, 2) := by decide +kernel
theorem dX11_attach_14 : decode cX11_attach 14 = .ok (.aload 7, 2) := by decide +kernel
theorem dX11_attach_16 : decode cX11_attach 16 = .ok (.ifnull 8, 3) := by decide +kernel
theorem dX11_attach_24 : decode cX11_attach 24 = .ok (.aload_n 0, 1) := by decide +kernel
theorem dX11_attach_25 : decode cX11_attach 25 = .ok (.iconst 1, 1) := by decide +kernel
theorem dX11_attach_26 : decode cX11_attach 26 = .ok (.invokevirtual 76, 3) := by decide +kernel
theorem dX11_attach_29 : decode cX11_attach 29 = .ok (.ireturn, 1) := by decide +kernel
theorem dX11_own_0 : decode cX11_own 0 = .ok (.aload_n 0, 1) := by decide +kernel
theorem dX11_own_1 : decode cX11_own 1 = .ok (.iload_n 1, 1) := by decide +kernel
theorem dX11_own_2 : decode cX11_own 2 = .ok (.invokevirtual 100, 3) := by decide +kernel
theorem dX11_own_5 : decode cX11_own 5 = .ok (.astore 5, 2) := by decide +kernel
theorem dX11_own_7 : decode cX11_own 7 = .ok (.aload 5, 2) := by decide +kernel
theorem dX11_own_9 : decode cX11_own 9 = .ok (.ifnonnull 9, 3) := by decide +kernel
theorem dX11_own_12 : decode cX11_own 12 = .ok (.aload_n 0, 1) := by decide +kernel
theorem dX11_own_13 : decode cX11_own 13 = .ok (.iconst 1, 1) := by decide +kernel
theorem dX11_own_14 : decode cX11_own 14 = .ok (.invokevirtual 76, 3) := by decide +kernel
theorem dX11_own_17 : decode cX11_own 17 = .ok (.ireturn, 1) := by decide +kernel
theorem dX11_message_0 : decode cX11_message 0 = .ok (.aload_n 0, 1) := by decide +kernel
theorem dX11_message_1 : decode cX11_message 1 = .ok (.iload_n 1, 1) := by decide +kernel
theorem dX11_message_2 : decode cX11_message 2 = .ok (.iload_n 2, 1) := by decide +kernel
theorem dX11_message_3 : decode cX11_message 3 = .ok (.invokevirtual 162, 3) := by decide +kernel
theorem dX11_message_6 : decode cX11_message 6 = .ok (.istore 5, 2) := by decide +kernel
theorem dX11_message_8 : decode cX11_message 8 = .ok (.iload 5, 2) := by decide +kernel
theorem dX11_message_10 : decode cX11_message 10 = .ok (.ifCond .eq 10, 3) := by decide +kernel
theorem dX11_message_13 : decode cX11_message 13 = .ok (.aload_n 0, 1) := by decide +kernel
theorem dX11_message_14 : decode cX11_message 14 = .ok (.iload 5, 2) := by decide +kernel
theorem dX11_message_16 : decode cX11_message 16 = .ok (.invokevirtual 76, 3) := by decide +kernel
theorem dX11_message_19 : decode cX11_message 19 = .ok (.ireturn, 1) := by decide +kernel
theorem dX11_echo_0 : decode cX11_echo 0 = .ok (.aload_n 0, 1) := by decide +kernel
theorem dX11_echo_1 : decode cX11_echo 1 = .ok (.iload_n 1, 1) := by decide +kernel
theorem dX11_echo_2 : decode cX11_echo 2 = .ok (.invokevirtual 100, 3) := by decide +kernel
theorem dX11_echo_5 : decode cX11_echo 5 = .ok (.astore 7, 2) := by decide +kernel
theorem dX11_echo_7 : decode cX11_echo 7 = .ok (.aload 7, 2) := by decide +kernel
theorem dX11_echo_9 : decode cX11_echo 9 = .ok (.ifnonnull 9, 3) := by decide +kernel
theorem dX11_echo_12 : decode cX11_echo 12 = .ok (.aload_n 0, 1) := by decide +kernel
theorem dX11_echo_13 : decode cX11_echo 13 = .ok (.iconst 1, 1) := by decide +kernel
theorem dX11_echo_14 : decode cX11_echo 14 = .ok (.invokevirtual 76, 3) := by decide +kernel
theorem dX11_echo_17 : decode cX11_echo 17 = .ok (.ireturn, 1) := by decide +kernel
theorem dX11_tick_0 : decode cX11_tick 0 = .ok (.iload_n 1, 1) := by decide +kernel
theorem dX11_tick_1 : decode cX11_tick 1 = .ok (.iconst 1, 1) := by decide +kernel
theorem dX11_tick_2 : decode cX11_tick 2 = .ok (.if_icmp .lt 9, 3) := by decide +kernel
theorem dX11_tick_5 : decode cX11_tick 5 = .ok (.iload_n 1, 1) := by decide +kernel
theorem dX11_tick_6 : decode cX11_tick 6 = .ok (.bipush 40, 2) := by decide +kernel
theorem dX11_tick_8 : decode cX11_tick 8 = .ok (.if_icmp .le 9, 3) := by decide +kernel
theorem dX11_tick_11 : decode cX11_tick 11 = .ok (.aload_n 0, 1) := by decide +kernel
theorem dX11_tick_12 : decode cX11_tick 12 = .ok (.iconst 4, 1) := by decide +kernel
theorem dX11_tick_13 : decode cX11_tick 13 = .ok (.invokevirtual 76, 3) := by decide +kernel
theorem dX11_tick_16 : decode cX11_tick 16 = .ok (.ireturn, 1) := by decide +kernel
theorem dX11_tick_17 : decode cX11_tick 17 = .ok (.iconst 0, 1) := by decide +kernel
theorem dX11_tick_18 : decode cX11_tick 18 = .ok (.istore_n 2, 1) := by decide +kernel
theorem dX11_tick_19 : decode cX11_tick 19 = .ok (.iload_n 2, 1) := by decide +kernel
theorem dX11_tick_20 : decode cX11_tick 20 = .ok (.iload_n 1, 1) := by decide +kernel
theorem dX11_tick_21 : decode cX11_tick 21 = .ok (.if_icmp .ge 99, 3) := by decide +kernel
theorem dX11_tick_24 : decode cX11_tick 24 = .ok (.aload_n 0, 1) := by decide +kernel
theorem dX11_tick_25 : decode cX11_tick 25 = .ok (.dup, 1) := by decide +kernel
theorem dX11_tick_26 : decode cX11_tick 26 = .ok (.getfield 142, 3) := by decide +kernel
theorem dX11_tick_29 : decode cX11_tick 29 = .ok (.iconst 1, 1) := by decide +kernel
theorem dX11_tick_30 : decode cX11_tick 30 = .ok (.iadd, 1) := by decide +kernel
theorem dX11_tick_31 : decode cX11_tick 31 = .ok (.putfield 142, 3) := by decide +kernel
theorem dX11_tick_34 : decode cX11_tick 34 = .ok (.aload_n 0, 1) := by decide +kernel
theorem dX11_tick_35 : decode cX11_tick 35 = .ok (.invokevirtual 198, 3) := by decide +kernel
theorem dX11_tick_38 : decode cX11_tick 38 = .ok (.iconst 0, 1) := by decide +kernel
theorem dX11_tick_39 : decode cX11_tick 39 = .ok (.istore_n 3, 1) := by decide +kernel
theorem dX11_tick_40 : decode cX11_tick 40 = .ok (.iload_n 3, 1) := by decide +kernel
theorem dX11_tick_41 : decode cX11_tick 41 = .ok (.aload_n 0, 1) := by decide +kernel
theorem dX11_tick_42 : decode cX11_tick 42 = .ok (.getfield 72, 3) := by decide +kernel
theorem dX11_tick_45 : decode cX11_tick 45 = .ok (.if_icmp .ge 69, 3) := by decide +kernel
theorem dX11_tick_114 : decode cX11_tick 114 = .ok (.iinc 2 1, 3) := by decide +kernel
theorem dX11_tick_117 : decode cX11_tick 117 = .ok (.goto (-98), 3) := by decide +kernel
theorem dX11_tick_120 : decode cX11_tick 120 = .ok (.aload_n 0, 1) := by decide +kernel
theorem dX11_tick_121 : decode cX11_tick 121 = .ok (.aload_n 0, 1) := by decide +kernel
theorem dX11_tick_122 : decode cX11_tick 122 = .ok (.getfield 142, 3) := by decide +kernel
theorem dX11_tick_125 : decode cX11_tick 125 = .ok (.invokevirtual 83, 3) := by decide +kernel
theorem dX11_tick_128 : decode cX11_tick 128 = .ok (.ireturn, 1) := by decide +kernel
theorem dX11_deliver_0 : decode cX11_deliver 0 = .ok (.aload_n 0, 1) := by decide +kernel
theorem dX11_deliver_1 : decode cX11_deliver 1 = .ok (.getfield 38, 3) := by decide +kernel
theorem dX11_deliver_4 : decode cX11_deliver 4 = .ok (.iload_n 1, 1) := by decide +kernel
theorem dX11_deliver_5 : decode cX11_deliver 5 = .ok (.invokevirtual 222, 3) := by decide +kernel
theorem dX11_deliver_8 : decode cX11_deliver 8 = .ok (.ifnonnull 9, 3) := by decide +kernel
theorem dX11_deliver_11 : decode cX11_deliver 11 = .ok (.aload_n 0, 1) := by decide +kernel
theorem dX11_deliver_12 : decode cX11_deliver 12 = .ok (.iconst 2, 1) := by decide +kernel
theorem dX11_deliver_13 : decode cX11_deliver 13 = .ok (.invokevirtual 76, 3) := by decide +kernel
theorem dX11_deliver_16 : decode cX11_deliver 16 = .ok (.ireturn, 1) := by decide +kernel
theorem dX11_drop_0 : decode cX11_drop 0 = .ok (.aload_n 0, 1) := by decide +kernel
theorem dX11_drop_1 : decode cX11_drop 1 = .ok (.getfield 38, 3) := by decide +kernel
theorem dX11_drop_4 : decode cX11_drop 4 = .ok (.iload_n 1, 1) := by decide +kernel
theorem dX11_drop_5 : decode cX11_drop 5 = .ok (.invokevirtual 222, 3) := by decide +kernel
theorem dX11_drop_8 : decode cX11_drop 8 = .ok (.ifnonnull 9, 3) := by decide +kernel
theorem dX11_drop_11 : decode cX11_drop 11 = .ok (.aload_n 0, 1) := by decide +kernel
theorem dX11_drop_12 : decode cX11_drop 12 = .ok (.iconst 2, 1) := by decide +kernel
theorem dX11_drop_13 : decode cX11_drop 13 = .ok (.invokevirtual 76, 3) := by decide +kernel
theorem dX11_drop_16 : decode cX11_drop 16 = .ok (.ireturn, 1) := by decide +kernel
theorem dX11_twice_0 : decode cX11_twice 0 = .ok (.aload_n 0, 1) := by decide +kernel
theorem dX11_twice_1 : decode cX11_twice 1 = .ok (.getfield 38, 3) := by decide +kernel
theorem dX11_twice_4 : decode cX11_twice 4 = .ok (.iload_n 1, 1) := by decide +kernel
theorem dX11_twice_5 : decode cX11_twice 5 = .ok (.invokevirtual 222, 3) := by decide +kernel
theorem dX11_twice_8 : decode cX11_twice 8 = .ok (.astore_n 2, 1) := by decide +kernel
theorem dX11_twice_9 : decode cX11_twice 9 = .ok (.aload_n 2, 1) := by decide +kernel
theorem dX11_twice_10 : decode cX11_twice 10 = .ok (.ifnonnull 9, 3) := by decide +kernel
theorem dX11_twice_13 : decode cX11_twice 13 = .ok (.aload_n 0, 1) := by decide +kernel
theorem dX11_twice_14 : decode cX11_twice 14 = .ok (.iconst 2, 1) := by decide +kernel
theorem dX11_twice_15 : decode cX11_twice 15 = .ok (.invokevirtual 76, 3) := by decide +kernel
theorem dX11_twice_18 : decode cX11_twice 18 = .ok (.ireturn, 1) := by decide +kernel
theorem dX11_hurry_0 : decode cX11_hurry 0 = .ok (.iload_n 1, 1) := by decide +kernel
theorem dX11_hurry_1 : decode cX11_hurry 1 = .ok (.iconst 1, 1) := by decide +kernel
theorem dX11_hurry_2 : decode cX11_hurry 2 = .ok (.if_icmp .lt 10, 3) := by decide +kernel
theorem dX11_hurry_5 : decode cX11_hurry 5 = .ok (.iload_n 1, 1) := by decide +kernel
theorem dX11_hurry_6 : decode cX11_hurry 6 = .ok (.sipush 200, 3) := by decide +kernel
theorem dX11_hurry_9 : decode cX11_hurry 9 = .ok (.if_icmp .le 9, 3) := by decide +kernel
theorem dX11_hurry_12 : decode cX11_hurry 12 = .ok (.aload_n 0, 1) := by decide +kernel
theorem dX11_hurry_13 : decode cX11_hurry 13 = .ok (.iconst 4, 1) := by decide +kernel
theorem dX11_hurry_14 : decode cX11_hurry 14 = .ok (.invokevirtual 76, 3) := by decide +kernel
theorem dX11_hurry_17 : decode cX11_hurry 17 = .ok (.ireturn, 1) := by decide +kernel
theorem dX11_hurry_18 : decode cX11_hurry 18 = .ok (.iconst 0, 1) := by decide +kernel
theorem dX11_hurry_19 : decode cX11_hurry 19 = .ok (.istore_n 2, 1) := by decide +kernel
theorem dX11_hurry_20 : decode cX11_hurry 20 = .ok (.iload_n 2, 1) := by decide +kernel
theorem dX11_hurry_21 : decode cX11_hurry 21 = .ok (.iload_n 1, 1) := by decide +kernel
theorem dX11_hurry_22 : decode cX11_hurry 22 = .ok (.if_icmp .ge 24, 3) := by decide +kernel
theorem dX11_hurry_25 : decode cX11_hurry 25 = .ok (.aload_n 0, 1) := by decide +kernel
theorem dX11_hurry_26 : decode cX11_hurry 26 = .ok (.getfield 38, 3) := by decide +kernel
theorem dX11_hurry_29 : decode cX11_hurry 29 = .ok (.getfield 229, 3) := by decide +kernel
theorem dX11_hurry_32 : decode cX11_hurry 32 = .ok (.ifCond .le 14, 3) := by decide +kernel
theorem dX11_hurry_46 : decode cX11_hurry 46 = .ok (.aload_n 0, 1) := by decide +kernel
theorem dX11_hurry_47 : decode cX11_hurry 47 = .ok (.iload_n 2, 1) := by decide +kernel
theorem dX11_hurry_48 : decode cX11_hurry 48 = .ok (.invokevirtual 83, 3) := by decide +kernel
theorem dX11_hurry_51 : decode cX11_hurry 51 = .ok (.ireturn, 1) := by decide +kernel
theorem dX11_raise_0 : decode cX11_raise 0 = .ok (.aload_n 0, 1) := by decide +kernel
theorem dX11_raise_1 : decode cX11_raise 1 = .ok (.iload_n 1, 1) := by decide +kernel
theorem dX11_raise_2 : decode cX11_raise 2 = .ok (.invokevirtual 104, 3) := by decide +kernel
theorem dX11_raise_5 : decode cX11_raise 5 = .ok (.astore_n 3, 1) := by decide +kernel
theorem dX11_raise_6 : decode cX11_raise 6 = .ok (.aload_n 3, 1) := by decide +kernel
theorem dX11_raise_7 : decode cX11_raise 7 = .ok (.ifnonnull 9, 3) := by decide +kernel
theorem dX11_raise_10 : decode cX11_raise 10 = .ok (.aload_n 0, 1) := by decide +kernel
theorem dX11_raise_11 : decode cX11_raise 11 = .ok (.iconst 1, 1) := by decide +kernel
theorem dX11_raise_12 : decode cX11_raise 12 = .ok (.invokevirtual 76, 3) := by decide +kernel
theorem dX11_raise_15 : decode cX11_raise 15 = .ok (.ireturn, 1) := by decide +kernel
theorem dX11_frames_0 : decode cX11_frames 0 = .ok (.aload_n 0, 1) := by decide +kernel
theorem dX11_frames_1 : decode cX11_frames 1 = .ok (.getfield 38, 3) := by decide +kernel
theorem dX11_frames_4 : decode cX11_frames 4 = .ok (.getfield 229, 3) := by decide +kernel
theorem dX11_frames_7 : decode cX11_frames 7 = .ok (.ireturn, 1) := by decide +kernel
theorem dX11_frame_0 : decode cX11_frame 0 = .ok (.aload_n 0, 1) := by decide +kernel
theorem dX11_frame_1 : decode cX11_frame 1 = .ok (.getfield 38, 3) := by decide +kernel
theorem dX11_frame_4 : decode cX11_frame 4 = .ok (.iload_n 1, 1) := by decide +kernel
theorem dX11_frame_5 : decode cX11_frame 5 = .ok (.invokevirtual 222, 3) := by decide +kernel
theorem dX11_frame_8 : decode cX11_frame 8 = .ok (.astore_n 3, 1) := by decide +kernel
theorem dX11_frame_9 : decode cX11_frame 9 = .ok (.aload_n 3, 1) := by decide +kernel
theorem dX11_frame_10 : decode cX11_frame 10 = .ok (.ifnonnull 9, 3) := by decide +kernel
theorem dX11_frame_13 : decode cX11_frame 13 = .ok (.aload_n 0, 1) := by decide +kernel
theorem dX11_frame_14 : decode cX11_frame 14 = .ok (.iconst 2, 1) := by decide +kernel
theorem dX11_frame_15 : decode cX11_frame 15 = .ok (.invokevirtual 76, 3) := by decide +kernel
theorem dX11_frame_18 : decode cX11_frame 18 = .ok (.ireturn, 1) := by decide +kernel
theorem dX11_bytes_0 : decode cX11_bytes 0 = .ok (.aload_n 0, 1) := by decide +kernel
theorem dX11_bytes_1 : decode cX11_bytes 1 = .ok (.getfield 38, 3) := by decide +kernel
theorem dX11_bytes_4 : decode cX11_bytes 4 = .ok (.iload_n 1, 1) := by decide +kernel
theorem dX11_bytes_5 : decode cX11_bytes 5 = .ok (.invokevirtual 222, 3) := by decide +kernel
theorem dX11_bytes_8 : decode cX11_bytes 8 = .ok (.astore_n 3, 1) := by decide +kernel
theorem dX11_bytes_9 : decode cX11_bytes 9 = .ok (.aload_n 3, 1) := by decide +kernel
theorem dX11_bytes_10 : decode cX11_bytes 10 = .ok (.ifnull 15, 3) := by decide +kernel
theorem dX11_bytes_25 : decode cX11_bytes 25 = .ok (.aload_n 0, 1) := by decide +kernel
theorem dX11_bytes_26 : decode cX11_bytes 26 = .ok (.iconst 2, 1) := by decide +kernel
theorem dX11_bytes_27 : decode cX11_bytes 27 = .ok (.invokevirtual 76, 3) := by decide +kernel
theorem dX11_bytes_30 : decode cX11_bytes 30 = .ok (.i2l, 1) := by decide +kernel
theorem dX11_bytes_31 : decode cX11_bytes 31 = .ok (.lreturn, 1) := by decide +kernel
theorem dX11_face_0 : decode cX11_face 0 = .ok (.aload_n 0, 1) := by decide +kernel
theorem dX11_face_1 : decode cX11_face 1 = .ok (.iload_n 1, 1) := by decide +kernel
theorem dX11_face_2 : decode cX11_face 2 = .ok (.invokevirtual 273, 3) := by decide +kernel
theorem dX11_face_5 : decode cX11_face 5 = .ok (.astore_n 3, 1) := by decide +kernel
theorem dX11_face_6 : decode cX11_face 6 = .ok (.aload_n 3, 1) := by decide +kernel
theorem dX11_face_7 : decode cX11_face 7 = .ok (.ifnonnull 9, 3) := by decide +kernel
theorem dX11_face_10 : decode cX11_face 10 = .ok (.aload_n 0, 1) := by decide +kernel
theorem dX11_face_11 : decode cX11_face 11 = .ok (.iconst 1, 1) := by decide +kernel
theorem dX11_face_12 : decode cX11_face 12 = .ok (.invokevirtual 76, 3) := by decide +kernel
theorem dX11_face_15 : decode cX11_face 15 = .ok (.ireturn, 1) := by decide +kernel
theorem dX11_id_0 : decode cX11_id 0 = .ok (.aload_n 0, 1) := by decide +kernel
theorem dX11_id_1 : decode cX11_id 1 = .ok (.iload_n 1, 1) := by decide +kernel
theorem dX11_id_2 : decode cX11_id 2 = .ok (.invokevirtual 273, 3) := by decide +kernel
theorem dX11_id_5 : decode cX11_id 5 = .ok (.astore_n 3, 1) := by decide +kernel
theorem dX11_id_6 : decode cX11_id 6 = .ok (.aload_n 3, 1) := by decide +kernel
theorem dX11_id_7 : decode cX11_id 7 = .ok (.ifnonnull 10, 3) := by decide +kernel
theorem dX11_id_10 : decode cX11_id 10 = .ok (.aload_n 0, 1) := by decide +kernel
theorem dX11_id_11 : decode cX11_id 11 = .ok (.iconst 1, 1) := by decide +kernel
theorem dX11_id_12 : decode cX11_id 12 = .ok (.invokevirtual 76, 3) := by decide +kernel
theorem dX11_id_15 : decode cX11_id 15 = .ok (.i2l, 1) := by decide +kernel
theorem dX11_id_16 : decode cX11_id 16 = .ok (.lreturn, 1) := by decide +kernel
theorem dX11_entry_0 : decode cX11_entry 0 = .ok (.aload_n 0, 1) := by decide +kernel
theorem dX11_entry_1 : decode cX11_entry 1 = .ok (.iload_n 1, 1) := by decide +kernel
theorem dX11_entry_2 : decode cX11_entry 2 = .ok (.invokevirtual 273, 3) := by decide +kernel
theorem dX11_entry_5 : decode cX11_entry 5 = .ok (.astore 4, 2) := by decide +kernel
theorem dX11_entry_7 : decode cX11_entry 7 = .ok (.aload 4, 2) := by decide +kernel
theorem dX11_entry_9 : decode cX11_entry 9 = .ok (.ifnonnull 10, 3) := by decide +kernel
theorem dX11_entry_12 : decode cX11_entry 12 = .ok (.aload_n 0, 1) := by decide +kernel
theorem dX11_entry_13 : decode cX11_entry 13 = .ok (.iconst 1, 1) := by decide +kernel
theorem dX11_entry_14 : decode cX11_entry 14 = .ok (.invokevirtual 76, 3) := by decide +kernel
theorem dX11_entry_17 : decode cX11_entry 17 = .ok (.i2l, 1) := by decide +kernel
theorem dX11_entry_18 : decode cX11_entry 18 = .ok (.lreturn, 1) := by decide +kernel
theorem dX11_routes_0 : decode cX11_routes 0 = .ok (.aload_n 0, 1) := by decide +kernel
theorem dX11_routes_1 : decode cX11_routes 1 = .ok (.iload_n 1, 1) := by decide +kernel
theorem dX11_routes_2 : decode cX11_routes 2 = .ok (.invokevirtual 100, 3) := by decide +kernel
theorem dX11_routes_5 : decode cX11_routes 5 = .ok (.astore_n 2, 1) := by decide +kernel
theorem dX11_routes_6 : decode cX11_routes 6 = .ok (.aload_n 2, 1) := by decide +kernel
theorem dX11_routes_7 : decode cX11_routes 7 = .ok (.ifnonnull 9, 3) := by decide +kernel
theorem dX11_routes_10 : decode cX11_routes 10 = .ok (.aload_n 0, 1) := by decide +kernel
theorem dX11_routes_11 : decode cX11_routes 11 = .ok (.iconst 1, 1) := by decide +kernel
theorem dX11_routes_12 : decode cX11_routes 12 = .ok (.invokevirtual 76, 3) := by decide +kernel
theorem dX11_routes_15 : decode cX11_routes 15 = .ok (.ireturn, 1) := by decide +kernel
theorem dX11_route_0 : decode cX11_route 0 = .ok (.aload_n 0, 1) := by decide +kernel
theorem dX11_route_1 : decode cX11_route 1 = .ok (.iload_n 1, 1) := by decide +kernel
theorem dX11_route_2 : decode cX11_route 2 = .ok (.invokevirtual 100, 3) := by decide +kernel
theorem dX11_route_5 : decode cX11_route 5 = .ok (.astore 4, 2) := by decide +kernel
theorem dX11_route_7 : decode cX11_route 7 = .ok (.aload 4, 2) := by decide +kernel
theorem dX11_route_9 : decode cX11_route 9 = .ok (.ifnonnull 10, 3) := by decide +kernel
theorem dX11_route_12 : decode cX11_route 12 = .ok (.aload_n 0, 1) := by decide +kernel
theorem dX11_route_13 : decode cX11_route 13 = .ok (.iconst 1, 1) := by decide +kernel
theorem dX11_route_14 : decode cX11_route 14 = .ok (.invokevirtual 76, 3) := by decide +kernel
theorem dX11_route_17 : decode cX11_route 17 = .ok (.i2l, 1) := by decide +kernel
theorem dX11_route_18 : decode cX11_route 18 = .ok (.lreturn, 1) := by decide +kernel
theorem dX11_way_0 : decode cX11_way 0 = .ok (.aload_n 0, 1) := by decide +kernel
theorem dX11_way_1 : decode cX11_way 1 = .ok (.iload_n 1, 1) := by decide +kernel
theorem dX11_way_2 : decode cX11_way 2 = .ok (.invokevirtual 100, 3) := by decide +kernel
theorem dX11_way_5 : decode cX11_way 5 = .ok (.astore 4, 2) := by decide +kernel
theorem dX11_way_7 : decode cX11_way 7 = .ok (.aload 4, 2) := by decide +kernel
theorem dX11_way_9 : decode cX11_way 9 = .ok (.ifnonnull 9, 3) := by decide +kernel
theorem dX11_way_12 : decode cX11_way 12 = .ok (.aload_n 0, 1) := by decide +kernel
theorem dX11_way_13 : decode cX11_way 13 = .ok (.iconst 1, 1) := by decide +kernel
theorem dX11_way_14 : decode cX11_way 14 = .ok (.invokevirtual 76, 3) := by decide +kernel
theorem dX11_way_17 : decode cX11_way 17 = .ok (.ireturn, 1) := by decide +kernel
theorem dX11_heard_0 : decode cX11_heard 0 = .ok (.aload_n 0, 1) := by decide +kernel
theorem dX11_heard_1 : decode cX11_heard 1 = .ok (.iload_n 1, 1) := by decide +kernel
theorem dX11_heard_2 : decode cX11_heard 2 = .ok (.iload_n 2, 1) := by decide +kernel
theorem dX11_heard_3 : decode cX11_heard 3 = .ok (.invokevirtual 162, 3) := by decide +kernel
theorem dX11_heard_6 : decode cX11_heard 6 = .ok (.istore_n 3, 1) := by decide +kernel
theorem dX11_heard_7 : decode cX11_heard 7 = .ok (.iload_n 3, 1) := by decide +kernel
theorem dX11_heard_8 : decode cX11_heard 8 = .ok (.ifCond .eq 9, 3) := by decide +kernel
theorem dX11_heard_11 : decode cX11_heard 11 = .ok (.aload_n 0, 1) := by decide +kernel
theorem dX11_heard_12 : decode cX11_heard 12 = .ok (.iload_n 3, 1) := by decide +kernel
theorem dX11_heard_13 : decode cX11_heard 13 = .ok (.invokevirtual 76, 3) := by decide +kernel
theorem dX11_heard_16 : decode cX11_heard 16 = .ok (.ireturn, 1) := by decide +kernel
theorem dX11_got_0 : decode cX11_got 0 = .ok (.aload_n 0, 1) := by decide +kernel
theorem dX11_got_1 : decode cX11_got 1 = .ok (.iload_n 1, 1) := by decide +kernel
theorem dX11_got_2 : decode cX11_got 2 = .ok (.iload_n 2, 1) := by decide +kernel
theorem dX11_got_3 : decode cX11_got 3 = .ok (.invokevirtual 162, 3) := by decide +kernel
theorem dX11_got_6 : decode cX11_got 6 = .ok (.istore 5, 2) := by decide +kernel
theorem dX11_got_8 : decode cX11_got 8 = .ok (.iload 5, 2) := by decide +kernel
theorem dX11_got_10 : decode cX11_got 10 = .ok (.ifCond .eq 10, 3) := by decide +kernel
theorem dX11_got_13 : decode cX11_got 13 = .ok (.aload_n 0, 1) := by decide +kernel
theorem dX11_got_14 : decode cX11_got 14 = .ok (.iload 5, 2) := by decide +kernel
theorem dX11_got_16 : decode cX11_got 16 = .ok (.invokevirtual 76, 3) := by decide +kernel
theorem dX11_got_19 : decode cX11_got 19 = .ok (.ireturn, 1) := by decide +kernel
theorem dX11_sent_0 : decode cX11_sent 0 = .ok (.aload_n 0, 1) := by decide +kernel
theorem dX11_sent_1 : decode cX11_sent 1 = .ok (.iload_n 1, 1) := by decide +kernel
theorem dX11_sent_2 : decode cX11_sent 2 = .ok (.iload_n 2, 1) := by decide +kernel
theorem dX11_sent_3 : decode cX11_sent 3 = .ok (.invokevirtual 162, 3) := by decide +kernel
theorem dX11_sent_6 : decode cX11_sent 6 = .ok (.istore 4, 2) := by decide +kernel
theorem dX11_sent_8 : decode cX11_sent 8 = .ok (.iload 4, 2) := by decide +kernel
theorem dX11_sent_10 : decode cX11_sent 10 = .ok (.ifCond .eq 10, 3) := by decide +kernel
theorem dX11_sent_13 : decode cX11_sent 13 = .ok (.aload_n 0, 1) := by decide +kernel
theorem dX11_sent_14 : decode cX11_sent 14 = .ok (.iload 4, 2) := by decide +kernel
theorem dX11_sent_16 : decode cX11_sent 16 = .ok (.invokevirtual 76, 3) := by decide +kernel
theorem dX11_sent_19 : decode cX11_sent 19 = .ok (.ireturn, 1) := by decide +kernel
theorem dX11_mtu_0 : decode cX11_mtu 0 = .ok (.aload_n 0, 1) := by decide +kernel
theorem dX11_mtu_1 : decode cX11_mtu 1 = .ok (.iload_n 1, 1) := by decide +kernel
theorem dX11_mtu_2 : decode cX11_mtu 2 = .ok (.invokevirtual 100, 3) := by decide +kernel
theorem dX11_mtu_5 : decode cX11_mtu 5 = .ok (.astore 6, 2) := by decide +kernel
theorem dX11_mtu_7 : decode cX11_mtu 7 = .ok (.aload 6, 2) := by decide +kernel
theorem dX11_mtu_9 : decode cX11_mtu 9 = .ok (.ifnonnull 9, 3) := by decide +kernel
theorem dX11_mtu_12 : decode cX11_mtu 12 = .ok (.aload_n 0, 1) := by decide +kernel
theorem dX11_mtu_13 : decode cX11_mtu 13 = .ok (.iconst 1, 1) := by decide +kernel
theorem dX11_mtu_14 : decode cX11_mtu 14 = .ok (.invokevirtual 76, 3) := by decide +kernel
theorem dX11_mtu_17 : decode cX11_mtu 17 = .ok (.ireturn, 1) := by decide +kernel
theorem dX11_count_0 : decode cX11_count 0 = .ok (.aload_n 0, 1) := by decide +kernel
theorem dX11_count_1 : decode cX11_count 1 = .ok (.iload_n 1, 1) := by decide +kernel
theorem dX11_count_2 : decode cX11_count 2 = .ok (.invokevirtual 100, 3) := by decide +kernel
theorem dX11_count_5 : decode cX11_count 5 = .ok (.astore_n 3, 1) := by decide +kernel
theorem dX11_count_6 : decode cX11_count 6 = .ok (.aload_n 3, 1) := by decide +kernel
theorem dX11_count_7 : decode cX11_count 7 = .ok (.ifnonnull 9, 3) := by decide +kernel
theorem dX11_count_10 : decode cX11_count 10 = .ok (.aload_n 0, 1) := by decide +kernel
theorem dX11_count_11 : decode cX11_count 11 = .ok (.iconst 1, 1) := by decide +kernel
theorem dX11_count_12 : decode cX11_count 12 = .ok (.invokevirtual 76, 3) := by decide +kernel
theorem dX11_count_15 : decode cX11_count 15 = .ok (.ireturn, 1) := by decide +kernel
theorem dX11_world_0 : decode cX11_world 0 = .ok (.iload_n 1, 1) := by decide +kernel
theorem dX11_world_1 : decode cX11_world 1 = .ok (.tableswitch 109 0 6 #[43, 52, 61, 70, 79, 88, 97], 43) := by decide +kernel
theorem dX11_world_44 : decode cX11_world 44 = .ok (.aload_n 0, 1) := by decide +kernel
theorem dX11_world_45 : decode cX11_world 45 = .ok (.aload_n 0, 1) := by decide +kernel
theorem dX11_world_46 : decode cX11_world 46 = .ok (.getfield 142, 3) := by decide +kernel
theorem dX11_world_49 : decode cX11_world 49 = .ok (.invokevirtual 83, 3) := by decide +kernel
theorem dX11_world_52 : decode cX11_world 52 = .ok (.ireturn, 1) := by decide +kernel
theorem dX11_world_53 : decode cX11_world 53 = .ok (.aload_n 0, 1) := by decide +kernel
theorem dX11_world_54 : decode cX11_world 54 = .ok (.aload_n 0, 1) := by decide +kernel
theorem dX11_world_55 : decode cX11_world 55 = .ok (.getfield 72, 3) := by decide +kernel
theorem dX11_world_58 : decode cX11_world 58 = .ok (.invokevirtual 83, 3) := by decide +kernel
theorem dX11_world_61 : decode cX11_world 61 = .ok (.ireturn, 1) := by decide +kernel
theorem dX11_world_62 : decode cX11_world 62 = .ok (.aload_n 0, 1) := by decide +kernel
theorem dX11_world_63 : decode cX11_world 63 = .ok (.aload_n 0, 1) := by decide +kernel
theorem dX11_world_64 : decode cX11_world 64 = .ok (.getfield 90, 3) := by decide +kernel
theorem dX11_world_67 : decode cX11_world 67 = .ok (.invokevirtual 83, 3) := by decide +kernel
theorem dX11_world_70 : decode cX11_world 70 = .ok (.ireturn, 1) := by decide +kernel
theorem dX11_world_71 : decode cX11_world 71 = .ok (.aload_n 0, 1) := by decide +kernel
theorem dX11_world_72 : decode cX11_world 72 = .ok (.aload_n 0, 1) := by decide +kernel
theorem dX11_world_73 : decode cX11_world 73 = .ok (.getfield 110, 3) := by decide +kernel
theorem dX11_world_76 : decode cX11_world 76 = .ok (.invokevirtual 83, 3) := by decide +kernel
theorem dX11_world_79 : decode cX11_world 79 = .ok (.ireturn, 1) := by decide +kernel
theorem dX11_world_80 : decode cX11_world 80 = .ok (.aload_n 0, 1) := by decide +kernel
theorem dX11_world_81 : decode cX11_world 81 = .ok (.aload_n 0, 1) := by decide +kernel
theorem dX11_world_82 : decode cX11_world 82 = .ok (.getfield 348, 3) := by decide +kernel
theorem dX11_world_85 : decode cX11_world 85 = .ok (.invokevirtual 83, 3) := by decide +kernel
theorem dX11_world_88 : decode cX11_world 88 = .ok (.ireturn, 1) := by decide +kernel
theorem dX11_world_89 : decode cX11_world 89 = .ok (.aload_n 0, 1) := by decide +kernel
theorem dX11_world_90 : decode cX11_world 90 = .ok (.aload_n 0, 1) := by decide +kernel
theorem dX11_world_91 : decode cX11_world 91 = .ok (.getfield 351, 3) := by decide +kernel
theorem dX11_world_94 : decode cX11_world 94 = .ok (.invokevirtual 83, 3) := by decide +kernel
theorem dX11_world_97 : decode cX11_world 97 = .ok (.ireturn, 1) := by decide +kernel
theorem dX11_world_98 : decode cX11_world 98 = .ok (.aload_n 0, 1) := by decide +kernel
theorem dX11_world_99 : decode cX11_world 99 = .ok (.aload_n 0, 1) := by decide +kernel
theorem dX11_world_100 : decode cX11_world 100 = .ok (.getfield 42, 3) := by decide +kernel
theorem dX11_world_103 : decode cX11_world 103 = .ok (.getfield 229, 3) := by decide +kernel
theorem dX11_world_106 : decode cX11_world 106 = .ok (.invokevirtual 83, 3) := by decide +kernel
theorem dX11_world_109 : decode cX11_world 109 = .ok (.ireturn, 1) := by decide +kernel
theorem dX11_world_110 : decode cX11_world 110 = .ok (.aload_n 0, 1) := by decide +kernel
theorem dX11_world_111 : decode cX11_world 111 = .ok (.iconst 4, 1) := by decide +kernel
theorem dX11_world_112 : decode cX11_world 112 = .ok (.invokevirtual 76, 3) := by decide +kernel
theorem dX11_world_115 : decode cX11_world 115 = .ok (.ireturn, 1) := by decide +kernel
theorem dX11_status_0 : decode cX11_status 0 = .ok (.aload_n 0, 1) := by decide +kernel
theorem dX11_status_1 : decode cX11_status 1 = .ok (.getfield 266, 3) := by decide +kernel
theorem dX11_status_4 : decode cX11_status 4 = .ok (.ireturn, 1) := by decide +kernel
theorem dX11_refuse_0 : decode cX11_refuse 0 = .ok (.aload_n 0, 1) := by decide +kernel
theorem dX11_refuse_1 : decode cX11_refuse 1 = .ok (.iload_n 1, 1) := by decide +kernel
theorem dX11_refuse_2 : decode cX11_refuse 2 = .ok (.putfield 266, 3) := by decide +kernel
theorem dX11_refuse_5 : decode cX11_refuse 5 = .ok (.iconst (-1), 1) := by decide +kernel
theorem dX11_refuse_6 : decode cX11_refuse 6 = .ok (.ireturn, 1) := by decide +kernel
theorem dX11_answer_0 : decode cX11_answer 0 = .ok (.aload_n 0, 1) := by decide +kernel
theorem dX11_answer_1 : decode cX11_answer 1 = .ok (.iconst 0, 1) := by decide +kernel
theorem dX11_answer_2 : decode cX11_answer 2 = .ok (.putfield 266, 3) := by decide +kernel
theorem dX11_answer_5 : decode cX11_answer 5 = .ok (.iload_n 1, 1) := by decide +kernel
theorem dX11_answer_6 : decode cX11_answer 6 = .ok (.ireturn, 1) := by decide +kernel
theorem dX11_nodeAt_0 : decode cX11_nodeAt 0 = .ok (.iload_n 1, 1) := by decide +kernel
theorem dX11_nodeAt_1 : decode cX11_nodeAt 1 = .ok (.ifCond .lt 26, 3) := by decide +kernel
theorem dX11_nodeAt_4 : decode cX11_nodeAt 4 = .ok (.iload_n 1, 1) := by decide +kernel
theorem dX11_nodeAt_5 : decode cX11_nodeAt 5 = .ok (.aload_n 0, 1) := by decide +kernel
theorem dX11_nodeAt_6 : decode cX11_nodeAt 6 = .ok (.getfield 72, 3) := by decide +kernel
theorem dX11_nodeAt_9 : decode cX11_nodeAt 9 = .ok (.if_icmp .ge 18, 3) := by decide +kernel
theorem dX11_nodeAt_27 : decode cX11_nodeAt 27 = .ok (.aconst_null, 1) := by decide +kernel
theorem dX11_nodeAt_28 : decode cX11_nodeAt 28 = .ok (.areturn, 1) := by decide +kernel
theorem dX11_linkAt_0 : decode cX11_linkAt 0 = .ok (.iload_n 1, 1) := by decide +kernel
theorem dX11_linkAt_1 : decode cX11_linkAt 1 = .ok (.ifCond .lt 26, 3) := by decide +kernel
theorem dX11_linkAt_4 : decode cX11_linkAt 4 = .ok (.iload_n 1, 1) := by decide +kernel
theorem dX11_linkAt_5 : decode cX11_linkAt 5 = .ok (.aload_n 0, 1) := by decide +kernel
theorem dX11_linkAt_6 : decode cX11_linkAt 6 = .ok (.getfield 90, 3) := by decide +kernel
theorem dX11_linkAt_9 : decode cX11_linkAt 9 = .ok (.if_icmp .ge 18, 3) := by decide +kernel
theorem dX11_linkAt_27 : decode cX11_linkAt 27 = .ok (.aconst_null, 1) := by decide +kernel
theorem dX11_linkAt_28 : decode cX11_linkAt 28 = .ok (.areturn, 1) := by decide +kernel
theorem dX11_faceAt_0 : decode cX11_faceAt 0 = .ok (.iload_n 1, 1) := by decide +kernel
theorem dX11_faceAt_1 : decode cX11_faceAt 1 = .ok (.ifCond .lt 26, 3) := by decide +kernel
theorem dX11_faceAt_4 : decode cX11_faceAt 4 = .ok (.iload_n 1, 1) := by decide +kernel
theorem dX11_faceAt_5 : decode cX11_faceAt 5 = .ok (.aload_n 0, 1) := by decide +kernel
theorem dX11_faceAt_6 : decode cX11_faceAt 6 = .ok (.getfield 110, 3) := by decide +kernel
theorem dX11_faceAt_9 : decode cX11_faceAt 9 = .ok (.if_icmp .ge 18, 3) := by decide +kernel
theorem dX11_faceAt_27 : decode cX11_faceAt 27 = .ok (.aconst_null, 1) := by decide +kernel
theorem dX11_faceAt_28 : decode cX11_faceAt 28 = .ok (.areturn, 1) := by decide +kernel
theorem dX11_whyNotHosts_0 : decode cX11_whyNotHosts 0 = .ok (.aload_n 0, 1) := by decide +kernel
theorem dX11_whyNotHosts_1 : decode cX11_whyNotHosts 1 = .ok (.iload_n 1, 1) := by decide +kernel
theorem dX11_whyNotHosts_2 : decode cX11_whyNotHosts 2 = .ok (.invokevirtual 100, 3) := by decide +kernel
theorem dX11_whyNotHosts_5 : decode cX11_whyNotHosts 5 = .ok (.astore_n 3, 1) := by decide +kernel
theorem dX11_whyNotHosts_6 : decode cX11_whyNotHosts 6 = .ok (.aload_n 0, 1) := by decide +kernel
theorem dX11_whyNotHosts_7 : decode cX11_whyNotHosts 7 = .ok (.iload_n 2, 1) := by decide +kernel
theorem dX11_whyNotHosts_8 : decode cX11_whyNotHosts 8 = .ok (.invokevirtual 100, 3) := by decide +kernel
theorem dX11_whyNotHosts_11 : decode cX11_whyNotHosts 11 = .ok (.astore 4, 2) := by decide +kernel
theorem dX11_whyNotHosts_13 : decode cX11_whyNotHosts 13 = .ok (.aload_n 3, 1) := by decide +kernel
theorem dX11_whyNotHosts_14 : decode cX11_whyNotHosts 14 = .ok (.ifnull 8, 3) := by decide +kernel
theorem dX11_whyNotHosts_22 : decode cX11_whyNotHosts 22 = .ok (.iconst 1, 1) := by decide +kernel
theorem dX11_whyNotHosts_23 : decode cX11_whyNotHosts 23 = .ok (.ireturn, 1) := by decide +kernel
theorem dX11_isGlobal_0 : decode cX11_isGlobal 0 = .ok (.lload_n 0, 1) := by decide +kernel
theorem dX11_isGlobal_1 : decode cX11_isGlobal 1 = .ok (.bipush 61, 2) := by decide +kernel
theorem dX11_isGlobal_3 : decode cX11_isGlobal 3 = .ok (.lushr, 1) := by decide +kernel
theorem dX11_isGlobal_4 : decode cX11_isGlobal 4 = .ok (.lconst 1, 1) := by decide +kernel
theorem dX11_isGlobal_5 : decode cX11_isGlobal 5 = .ok (.lcmp, 1) := by decide +kernel
theorem dX11_isGlobal_6 : decode cX11_isGlobal 6 = .ok (.ifCond .ne 7, 3) := by decide +kernel
theorem dX11_isGlobal_9 : decode cX11_isGlobal 9 = .ok (.iconst 1, 1) := by decide +kernel
theorem dX11_isGlobal_10 : decode cX11_isGlobal 10 = .ok (.goto 4, 3) := by decide +kernel
theorem dX11_isGlobal_13 : decode cX11_isGlobal 13 = .ok (.iconst 0, 1) := by decide +kernel
theorem dX11_isGlobal_14 : decode cX11_isGlobal 14 = .ok (.ireturn, 1) := by decide +kernel
theorem dX11_dropOldFrames_0 : decode cX11_dropOldFrames 0 = .ok (.aload_n 0, 1) := by decide +kernel
theorem dX11_dropOldFrames_1 : decode cX11_dropOldFrames 1 = .ok (.getfield 38, 3) := by decide +kernel
theorem dX11_dropOldFrames_4 : decode cX11_dropOldFrames 4 = .ok (.getfield 229, 3) := by decide +kernel
theorem dX11_dropOldFrames_7 : decode cX11_dropOldFrames 7 = .ok (.iconst 1, 1) := by decide +kernel
theorem dX11_dropOldFrames_8 : decode cX11_dropOldFrames 8 = .ok (.isub, 1) := by decide +kernel
theorem dX11_dropOldFrames_9 : decode cX11_dropOldFrames 9 = .ok (.istore_n 1, 1) := by decide +kernel
theorem dX11_dropOldFrames_10 : decode cX11_dropOldFrames 10 = .ok (.iload_n 1, 1) := by decide +kernel
theorem dX11_dropOldFrames_11 : decode cX11_dropOldFrames 11 = .ok (.ifCond .lt 44, 3) := by decide +kernel
theorem dX11_dropOldFrames_55 : decode cX11_dropOldFrames 55 = .ok (.return_, 1) := by decide +kernel
theorem dX12_no_0 : decode cX12_no 0 = .ok (.aload_n 0, 1) := by decide +kernel
theorem dX12_no_1 : decode cX12_no 1 = .ok (.iload_n 1, 1) := by decide +kernel
theorem dX12_no_2 : decode cX12_no 2 = .ok (.putfield 235, 3) := by decide +kernel
theorem dX12_no_5 : decode cX12_no 5 = .ok (.iconst (-1), 1) := by decide +kernel
theorem dX12_no_6 : decode cX12_no 6 = .ok (.ireturn, 1) := by decide +kernel
theorem dX12_yes_0 : decode cX12_yes 0 = .ok (.aload_n 0, 1) := by decide +kernel
theorem dX12_yes_1 : decode cX12_yes 1 = .ok (.iconst 0, 1) := by decide +kernel
theorem dX12_yes_2 : decode cX12_yes 2 = .ok (.putfield 235, 3) := by decide +kernel
theorem dX12_yes_5 : decode cX12_yes 5 = .ok (.iload_n 1, 1) := by decide +kernel
theorem dX12_yes_6 : decode cX12_yes 6 = .ok (.ireturn, 1) := by decide +kernel
theorem dX12_isIn_0 : decode cX12_isIn 0 = .ok (.lload_n 0, 1) := by decide +kernel
theorem dX12_isIn_1 : decode cX12_isIn 1 = .ok (.lload_n 2, 1) := by decide +kernel
theorem dX12_isIn_2 : decode cX12_isIn 2 = .ok (.lcmp, 1) := by decide +kernel
theorem dX12_isIn_3 : decode cX12_isIn 3 = .ok (.ifCond .lt 14, 3) := by decide +kernel
theorem dX12_isIn_6 : decode cX12_isIn 6 = .ok (.lload_n 0, 1) := by decide +kernel
theorem dX12_isIn_7 : decode cX12_isIn 7 = .ok (.lload 4, 2) := by decide +kernel
theorem dX12_isIn_9 : decode cX12_isIn 9 = .ok (.lcmp, 1) := by decide +kernel
theorem dX12_isIn_10 : decode cX12_isIn 10 = .ok (.ifCond .gt 7, 3) := by decide +kernel
theorem dX12_isIn_13 : decode cX12_isIn 13 = .ok (.iconst 1, 1) := by decide +kernel
theorem dX12_isIn_14 : decode cX12_isIn 14 = .ok (.goto 4, 3) := by decide +kernel
theorem dX12_isIn_17 : decode cX12_isIn 17 = .ok (.iconst 0, 1) := by decide +kernel
theorem dX12_isIn_18 : decode cX12_isIn 18 = .ok (.ireturn, 1) := by decide +kernel
theorem dX12_isNode_0 : decode cX12_isNode 0 = .ok (.iload_n 1, 1) := by decide +kernel
theorem dX12_isNode_1 : decode cX12_isNode 1 = .ok (.ifCond .lt 15, 3) := by decide +kernel
theorem dX12_isNode_4 : decode cX12_isNode 4 = .ok (.iload_n 1, 1) := by decide +kernel
theorem dX12_isNode_5 : decode cX12_isNode 5 = .ok (.aload_n 0, 1) := by decide +kernel
theorem dX12_isNode_6 : decode cX12_isNode 6 = .ok (.getfield 239, 3) := by decide +kernel
theorem dX12_isNode_9 : decode cX12_isNode 9 = .ok (.if_icmp .ge 7, 3) := by decide +kernel
theorem dX12_isNode_16 : decode cX12_isNode 16 = .ok (.iconst 0, 1) := by decide +kernel
theorem dX12_isNode_17 : decode cX12_isNode 17 = .ok (.ireturn, 1) := by decide +kernel
theorem dX12_node_0 : decode cX12_node 0 = .ok (.aload_n 0, 1) := by decide +kernel
theorem dX12_node_1 : decode cX12_node 1 = .ok (.getfield 239, 3) := by decide +kernel
theorem dX12_node_4 : decode cX12_node 4 = .ok (.bipush 12, 2) := by decide +kernel
theorem dX12_node_6 : decode cX12_node 6 = .ok (.if_icmp .ne 9, 3) := by decide +kernel
theorem dX12_node_15 : decode cX12_node 15 = .ok (.aload_n 0, 1) := by decide +kernel
theorem dX12_node_16 : decode cX12_node 16 = .ok (.getfield 9, 3) := by decide +kernel
theorem dX12_node_19 : decode cX12_node 19 = .ok (.aload_n 0, 1) := by decide +kernel
theorem dX12_node_20 : decode cX12_node 20 = .ok (.getfield 239, 3) := by decide +kernel
theorem dX12_node_23 : decode cX12_node 23 = .ok (.iload_n 1, 1) := by decide +kernel
theorem dX12_node_24 : decode cX12_node 24 = .ok (.bastore, 1) := by decide +kernel
theorem dX12_node_25 : decode cX12_node 25 = .ok (.aload_n 0, 1) := by decide +kernel
theorem dX12_node_26 : decode cX12_node 26 = .ok (.dup, 1) := by decide +kernel
theorem dX12_node_27 : decode cX12_node 27 = .ok (.getfield 239, 3) := by decide +kernel
theorem dX12_node_30 : decode cX12_node 30 = .ok (.iconst 1, 1) := by decide +kernel
theorem dX12_node_31 : decode cX12_node 31 = .ok (.iadd, 1) := by decide +kernel
theorem dX12_node_32 : decode cX12_node 32 = .ok (.putfield 239, 3) := by decide +kernel
theorem dX12_node_35 : decode cX12_node 35 = .ok (.aload_n 0, 1) := by decide +kernel
theorem dX12_node_36 : decode cX12_node 36 = .ok (.aload_n 0, 1) := by decide +kernel
theorem dX12_node_37 : decode cX12_node 37 = .ok (.getfield 239, 3) := by decide +kernel
theorem dX12_node_40 : decode cX12_node 40 = .ok (.iconst 1, 1) := by decide +kernel
theorem dX12_node_41 : decode cX12_node 41 = .ok (.isub, 1) := by decide +kernel
theorem dX12_node_42 : decode cX12_node 42 = .ok (.invokevirtual 554, 3) := by decide +kernel
theorem dX12_node_45 : decode cX12_node 45 = .ok (.ireturn, 1) := by decide +kernel
theorem dX12_link_0 : decode cX12_link 0 = .ok (.lload_n 1, 1) := by decide +kernel
theorem dX12_link_1 : decode cX12_link 1 = .ok (.bipush 61, 2) := by decide +kernel
theorem dX12_link_3 : decode cX12_link 3 = .ok (.lushr, 1) := by decide +kernel
theorem dX12_link_4 : decode cX12_link 4 = .ok (.lconst 1, 1) := by decide +kernel
theorem dX12_link_5 : decode cX12_link 5 = .ok (.lcmp, 1) := by decide +kernel
theorem dX12_link_6 : decode cX12_link 6 = .ok (.ifCond .ne 17, 3) := by decide +kernel
theorem dX12_link_9 : decode cX12_link 9 = .ok (.iload_n 3, 1) := by decide +kernel
theorem dX12_link_10 : decode cX12_link 10 = .ok (.i2l, 1) := by decide +kernel
theorem dX12_link_11 : decode cX12_link 11 = .ok (.ldc2_w 557, 3) := by decide +kernel
theorem dX12_link_14 : decode cX12_link 14 = .ok (.ldc2_w 559, 3) := by decide +kernel
theorem dX12_link_17 : decode cX12_link 17 = .ok (.invokestatic 561, 3) := by decide +kernel
theorem dX12_link_20 : decode cX12_link 20 = .ok (.ifCond .ne 9, 3) := by decide +kernel
theorem dX12_link_23 : decode cX12_link 23 = .ok (.aload_n 0, 1) := by decide +kernel
theorem dX12_link_24 : decode cX12_link 24 = .ok (.iconst 4, 1) := by decide +kernel
theorem dX12_link_25 : decode cX12_link 25 = .ok (.invokevirtual 551, 3) := by decide +kernel
theorem dX12_link_28 : decode cX12_link 28 = .ok (.ireturn, 1) := by decide +kernel
theorem dX12_link_29 : decode cX12_link 29 = .ok (.aload_n 0, 1) := by decide +kernel
theorem dX12_link_30 : decode cX12_link 30 = .ok (.getfield 565, 3) := by decide +kernel
theorem dX12_link_33 : decode cX12_link 33 = .ok (.bipush 10, 2) := by decide +kernel
theorem dX12_link_35 : decode cX12_link 35 = .ok (.if_icmp .ne 9, 3) := by decide +kernel
theorem dX12_link_44 : decode cX12_link 44 = .ok (.iconst 0, 1) := by decide +kernel
theorem dX12_link_45 : decode cX12_link 45 = .ok (.istore 4, 2) := by decide +kernel
theorem dX12_link_47 : decode cX12_link 47 = .ok (.iload 4, 2) := by decide +kernel
theorem dX12_link_49 : decode cX12_link 49 = .ok (.aload_n 0, 1) := by decide +kernel
theorem dX12_link_50 : decode cX12_link 50 = .ok (.getfield 565, 3) := by decide +kernel
theorem dX12_link_53 : decode cX12_link 53 = .ok (.if_icmp .ge 28, 3) := by decide +kernel
theorem dX12_link_81 : decode cX12_link 81 = .ok (.aload_n 0, 1) := by decide +kernel
theorem dX12_link_82 : decode cX12_link 82 = .ok (.getfield 13, 3) := by decide +kernel
theorem dX12_link_85 : decode cX12_link 85 = .ok (.aload_n 0, 1) := by decide +kernel
theorem dX12_link_86 : decode cX12_link 86 = .ok (.getfield 565, 3) := by decide +kernel
theorem dX12_link_89 : decode cX12_link 89 = .ok (.lload_n 1, 1) := by decide +kernel
theorem dX12_link_90 : decode cX12_link 90 = .ok (.lastore, 1) := by decide +kernel
theorem dX12_link_91 : decode cX12_link 91 = .ok (.aload_n 0, 1) := by decide +kernel
theorem dX12_link_92 : decode cX12_link 92 = .ok (.getfield 17, 3) := by decide +kernel
theorem dX12_link_95 : decode cX12_link 95 = .ok (.aload_n 0, 1) := by decide +kernel
theorem dX12_link_96 : decode cX12_link 96 = .ok (.getfield 565, 3) := by decide +kernel
theorem dX12_link_99 : decode cX12_link 99 = .ok (.iload_n 3, 1) := by decide +kernel
theorem dX12_link_100 : decode cX12_link 100 = .ok (.iastore, 1) := by decide +kernel
theorem dX12_link_101 : decode cX12_link 101 = .ok (.aload_n 0, 1) := by decide +kernel
theorem dX12_link_102 : decode cX12_link 102 = .ok (.getfield 21, 3) := by decide +kernel
theorem dX12_link_105 : decode cX12_link 105 = .ok (.aload_n 0, 1) := by decide +kernel
theorem dX12_link_106 : decode cX12_link 106 = .ok (.getfield 565, 3) := by decide +kernel
theorem dX12_link_109 : decode cX12_link 109 = .ok (.iconst 1, 1) := by decide +kernel
theorem dX12_link_110 : decode cX12_link 110 = .ok (.bastore, 1) := by decide +kernel
theorem dX12_link_111 : decode cX12_link 111 = .ok (.aload_n 0, 1) := by decide +kernel
theorem dX12_link_112 : decode cX12_link 112 = .ok (.dup, 1) := by decide +kernel
theorem dX12_link_113 : decode cX12_link 113 = .ok (.getfield 565, 3) := by decide +kernel
theorem dX12_link_116 : decode cX12_link 116 = .ok (.iconst 1, 1) := by decide +kernel
theorem dX12_link_117 : decode cX12_link 117 = .ok (.iadd, 1) := by decide +kernel
theorem dX12_link_118 : decode cX12_link 118 = .ok (.putfield 565, 3) := by decide +kernel
theorem dX12_link_121 : decode cX12_link 121 = .ok (.aload_n 0, 1) := by decide +kernel
theorem dX12_link_122 : decode cX12_link 122 = .ok (.aload_n 0, 1) := by decide +kernel
theorem dX12_link_123 : decode cX12_link 123 = .ok (.getfield 565, 3) := by decide +kernel
theorem dX12_link_126 : decode cX12_link 126 = .ok (.iconst 1, 1) := by decide +kernel
theorem dX12_link_127 : decode cX12_link 127 = .ok (.isub, 1) := by decide +kernel
theorem dX12_link_128 : decode cX12_link 128 = .ok (.invokevirtual 554, 3) := by decide +kernel
theorem dX12_link_131 : decode cX12_link 131 = .ok (.ireturn, 1) := by decide +kernel
theorem dX12_attach_0 : decode cX12_attach 0 = .ok (.aload_n 0, 1) := by decide +kernel
theorem dX12_attach_1 : decode cX12_attach 1 = .ok (.iload_n 1, 1) := by decide +kernel
theorem dX12_attach_2 : decode cX12_attach 2 = .ok (.invokevirtual 568, 3) := by decide +kernel
theorem dX12_attach_5 : decode cX12_attach 5 = .ok (.ifCond .eq 19, 3) := by decide +kernel
theorem dX12_attach_24 : decode cX12_attach 24 = .ok (.aload_n 0, 1) := by decide +kernel
theorem dX12_attach_25 : decode cX12_attach 25 = .ok (.iconst 1, 1) := by decide +kernel
theorem dX12_attach_26 : decode cX12_attach 26 = .ok (.invokevirtual 551, 3) := by decide +kernel
theorem dX12_attach_29 : decode cX12_attach 29 = .ok (.ireturn, 1) := by decide +kernel
theorem dX12_own_0 : decode cX12_own 0 = .ok (.aload_n 0, 1) := by decide +kernel
theorem dX12_own_1 : decode cX12_own 1 = .ok (.iload_n 1, 1) := by decide +kernel
theorem dX12_own_2 : decode cX12_own 2 = .ok (.invokevirtual 568, 3) := by decide +kernel
theorem dX12_own_5 : decode cX12_own 5 = .ok (.ifCond .ne 9, 3) := by decide +kernel
theorem dX12_own_8 : decode cX12_own 8 = .ok (.aload_n 0, 1) := by decide +kernel
theorem dX12_own_9 : decode cX12_own 9 = .ok (.iconst 1, 1) := by decide +kernel
theorem dX12_own_10 : decode cX12_own 10 = .ok (.invokevirtual 551, 3) := by decide +kernel
theorem dX12_own_13 : decode cX12_own 13 = .ok (.ireturn, 1) := by decide +kernel
theorem dX12_message_0 : decode cX12_message 0 = .ok (.aload_n 0, 1) := by decide +kernel
theorem dX12_message_1 : decode cX12_message 1 = .ok (.iload_n 1, 1) := by decide +kernel
theorem dX12_message_2 : decode cX12_message 2 = .ok (.invokevirtual 568, 3) := by decide +kernel
theorem dX12_message_5 : decode cX12_message 5 = .ok (.ifCond .eq 11, 3) := by decide +kernel
theorem dX12_message_16 : decode cX12_message 16 = .ok (.aload_n 0, 1) := by decide +kernel
theorem dX12_message_17 : decode cX12_message 17 = .ok (.iconst 1, 1) := by decide +kernel
theorem dX12_message_18 : decode cX12_message 18 = .ok (.invokevirtual 551, 3) := by decide +kernel
theorem dX12_message_21 : decode cX12_message 21 = .ok (.ireturn, 1) := by decide +kernel
theorem dX12_echo_0 : decode cX12_echo 0 = .ok (.aload_n 0, 1) := by decide +kernel
theorem dX12_echo_1 : decode cX12_echo 1 = .ok (.iload_n 1, 1) := by decide +kernel
theorem dX12_echo_2 : decode cX12_echo 2 = .ok (.invokevirtual 568, 3) := by decide +kernel
theorem dX12_echo_5 : decode cX12_echo 5 = .ok (.ifCond .ne 9, 3) := by decide +kernel
theorem dX12_echo_8 : decode cX12_echo 8 = .ok (.aload_n 0, 1) := by decide +kernel
theorem dX12_echo_9 : decode cX12_echo 9 = .ok (.iconst 1, 1) := by decide +kernel
theorem dX12_echo_10 : decode cX12_echo 10 = .ok (.invokevirtual 551, 3) := by decide +kernel
theorem dX12_echo_13 : decode cX12_echo 13 = .ok (.ireturn, 1) := by decide +kernel
theorem dX12_tickOnce_0 : decode cX12_tickOnce 0 = .ok (.aload_n 0, 1) := by decide +kernel
theorem dX12_tickOnce_1 : decode cX12_tickOnce 1 = .ok (.dup, 1) := by decide +kernel
theorem dX12_tickOnce_2 : decode cX12_tickOnce 2 = .ok (.getfield 271, 3) := by decide +kernel
theorem dX12_tickOnce_5 : decode cX12_tickOnce 5 = .ok (.iconst 1, 1) := by decide +kernel
theorem dX12_tickOnce_6 : decode cX12_tickOnce 6 = .ok (.iadd, 1) := by decide +kernel
theorem dX12_tickOnce_7 : decode cX12_tickOnce 7 = .ok (.putfield 271, 3) := by decide +kernel
theorem dX12_tickOnce_10 : decode cX12_tickOnce 10 = .ok (.iconst 0, 1) := by decide +kernel
theorem dX12_tickOnce_11 : decode cX12_tickOnce 11 = .ok (.istore_n 1, 1) := by decide +kernel
theorem dX12_tickOnce_12 : decode cX12_tickOnce 12 = .ok (.iload_n 1, 1) := by decide +kernel
theorem dX12_tickOnce_13 : decode cX12_tickOnce 13 = .ok (.aload_n 0, 1) := by decide +kernel
theorem dX12_tickOnce_14 : decode cX12_tickOnce 14 = .ok (.getfield 255, 3) := by decide +kernel
theorem dX12_tickOnce_17 : decode cX12_tickOnce 17 = .ok (.if_icmp .ge 38, 3) := by decide +kernel
theorem dX12_tickOnce_55 : decode cX12_tickOnce 55 = .ok (.iconst 0, 1) := by decide +kernel
theorem dX12_tickOnce_56 : decode cX12_tickOnce 56 = .ok (.istore_n 2, 1) := by decide +kernel
theorem dX12_tickOnce_57 : decode cX12_tickOnce 57 = .ok (.iload_n 2, 1) := by decide +kernel
theorem dX12_tickOnce_58 : decode cX12_tickOnce 58 = .ok (.aload_n 0, 1) := by decide +kernel
theorem dX12_tickOnce_59 : decode cX12_tickOnce 59 = .ok (.getfield 239, 3) := by decide +kernel
theorem dX12_tickOnce_62 : decode cX12_tickOnce 62 = .ok (.if_icmp .ge 72, 3) := by decide +kernel
theorem dX12_tickOnce_134 : decode cX12_tickOnce 134 = .ok (.return_, 1) := by decide +kernel
theorem dX12_tick_0 : decode cX12_tick 0 = .ok (.iload_n 1, 1) := by decide +kernel
theorem dX12_tick_1 : decode cX12_tick 1 = .ok (.i2l, 1) := by decide +kernel
theorem dX12_tick_2 : decode cX12_tick 2 = .ok (.lconst 1, 1) := by decide +kernel
theorem dX12_tick_3 : decode cX12_tick 3 = .ok (.ldc2_w 533, 3) := by decide +kernel
theorem dX12_tick_6 : decode cX12_tick 6 = .ok (.invokestatic 561, 3) := by decide +kernel
theorem dX12_tick_9 : decode cX12_tick 9 = .ok (.ifCond .ne 9, 3) := by decide +kernel
theorem dX12_tick_12 : decode cX12_tick 12 = .ok (.aload_n 0, 1) := by decide +kernel
theorem dX12_tick_13 : decode cX12_tick 13 = .ok (.iconst 4, 1) := by decide +kernel
theorem dX12_tick_14 : decode cX12_tick 14 = .ok (.invokevirtual 551, 3) := by decide +kernel
theorem dX12_tick_17 : decode cX12_tick 17 = .ok (.ireturn, 1) := by decide +kernel
theorem dX12_tick_18 : decode cX12_tick 18 = .ok (.iconst 0, 1) := by decide +kernel
theorem dX12_tick_19 : decode cX12_tick 19 = .ok (.istore_n 2, 1) := by decide +kernel
theorem dX12_tick_20 : decode cX12_tick 20 = .ok (.iload_n 2, 1) := by decide +kernel
theorem dX12_tick_21 : decode cX12_tick 21 = .ok (.iload_n 1, 1) := by decide +kernel
theorem dX12_tick_22 : decode cX12_tick 22 = .ok (.if_icmp .ge 13, 3) := by decide +kernel
theorem dX12_tick_25 : decode cX12_tick 25 = .ok (.aload_n 0, 1) := by decide +kernel
theorem dX12_tick_26 : decode cX12_tick 26 = .ok (.invokevirtual 618, 3) := by decide +kernel
theorem dX12_tick_29 : decode cX12_tick 29 = .ok (.iinc 2 1, 3) := by decide +kernel
theorem dX12_tick_32 : decode cX12_tick 32 = .ok (.goto (-12), 3) := by decide +kernel
theorem dX12_tick_35 : decode cX12_tick 35 = .ok (.aload_n 0, 1) := by decide +kernel
theorem dX12_tick_36 : decode cX12_tick 36 = .ok (.aload_n 0, 1) := by decide +kernel
theorem dX12_tick_37 : decode cX12_tick 37 = .ok (.getfield 271, 3) := by decide +kernel
theorem dX12_tick_40 : decode cX12_tick 40 = .ok (.invokevirtual 554, 3) := by decide +kernel
theorem dX12_tick_43 : decode cX12_tick 43 = .ok (.ireturn, 1) := by decide +kernel
theorem dX12_isFrame_0 : decode cX12_isFrame 0 = .ok (.iload_n 1, 1) := by decide +kernel
theorem dX12_isFrame_1 : decode cX12_isFrame 1 = .ok (.ifCond .lt 15, 3) := by decide +kernel
theorem dX12_isFrame_4 : decode cX12_isFrame 4 = .ok (.iload_n 1, 1) := by decide +kernel
theorem dX12_isFrame_5 : decode cX12_isFrame 5 = .ok (.aload_n 0, 1) := by decide +kernel
theorem dX12_isFrame_6 : decode cX12_isFrame 6 = .ok (.getfield 255, 3) := by decide +kernel
theorem dX12_isFrame_9 : decode cX12_isFrame 9 = .ok (.if_icmp .ge 7, 3) := by decide +kernel
theorem dX12_isFrame_16 : decode cX12_isFrame 16 = .ok (.iconst 0, 1) := by decide +kernel
theorem dX12_isFrame_17 : decode cX12_isFrame 17 = .ok (.ireturn, 1) := by decide +kernel
theorem dX12_deliver_0 : decode cX12_deliver 0 = .ok (.aload_n 0, 1) := by decide +kernel
theorem dX12_deliver_1 : decode cX12_deliver 1 = .ok (.iload_n 1, 1) := by decide +kernel
theorem dX12_deliver_2 : decode cX12_deliver 2 = .ok (.invokevirtual 626, 3) := by decide +kernel
theorem dX12_deliver_5 : decode cX12_deliver 5 = .ok (.ifCond .ne 9, 3) := by decide +kernel
theorem dX12_deliver_8 : decode cX12_deliver 8 = .ok (.aload_n 0, 1) := by decide +kernel
theorem dX12_deliver_9 : decode cX12_deliver 9 = .ok (.iconst 2, 1) := by decide +kernel
theorem dX12_deliver_10 : decode cX12_deliver 10 = .ok (.invokevirtual 551, 3) := by decide +kernel
theorem dX12_deliver_13 : decode cX12_deliver 13 = .ok (.ireturn, 1) := by decide +kernel
theorem dX12_drop_0 : decode cX12_drop 0 = .ok (.aload_n 0, 1) := by decide +kernel
theorem dX12_drop_1 : decode cX12_drop 1 = .ok (.iload_n 1, 1) := by decide +kernel
theorem dX12_drop_2 : decode cX12_drop 2 = .ok (.invokevirtual 626, 3) := by decide +kernel
theorem dX12_drop_5 : decode cX12_drop 5 = .ok (.ifCond .ne 9, 3) := by decide +kernel
theorem dX12_drop_8 : decode cX12_drop 8 = .ok (.aload_n 0, 1) := by decide +kernel
theorem dX12_drop_9 : decode cX12_drop 9 = .ok (.iconst 2, 1) := by decide +kernel
theorem dX12_drop_10 : decode cX12_drop 10 = .ok (.invokevirtual 551, 3) := by decide +kernel
theorem dX12_drop_13 : decode cX12_drop 13 = .ok (.ireturn, 1) := by decide +kernel
theorem dX12_twice_0 : decode cX12_twice 0 = .ok (.aload_n 0, 1) := by decide +kernel
theorem dX12_twice_1 : decode cX12_twice 1 = .ok (.iload_n 1, 1) := by decide +kernel
theorem dX12_twice_2 : decode cX12_twice 2 = .ok (.invokevirtual 626, 3) := by decide +kernel
theorem dX12_twice_5 : decode cX12_twice 5 = .ok (.ifCond .ne 9, 3) := by decide +kernel
theorem dX12_twice_8 : decode cX12_twice 8 = .ok (.aload_n 0, 1) := by decide +kernel
theorem dX12_twice_9 : decode cX12_twice 9 = .ok (.iconst 2, 1) := by decide +kernel
theorem dX12_twice_10 : decode cX12_twice 10 = .ok (.invokevirtual 551, 3) := by decide +kernel
theorem dX12_twice_13 : decode cX12_twice 13 = .ok (.ireturn, 1) := by decide +kernel
theorem dX12_hurry_0 : decode cX12_hurry 0 = .ok (.iload_n 1, 1) := by decide +kernel
theorem dX12_hurry_1 : decode cX12_hurry 1 = .ok (.i2l, 1) := by decide +kernel
theorem dX12_hurry_2 : decode cX12_hurry 2 = .ok (.lconst 1, 1) := by decide +kernel
theorem dX12_hurry_3 : decode cX12_hurry 3 = .ok (.ldc2_w 632, 3) := by decide +kernel
theorem dX12_hurry_6 : decode cX12_hurry 6 = .ok (.invokestatic 561, 3) := by decide +kernel
theorem dX12_hurry_9 : decode cX12_hurry 9 = .ok (.ifCond .ne 9, 3) := by decide +kernel
theorem dX12_hurry_12 : decode cX12_hurry 12 = .ok (.aload_n 0, 1) := by decide +kernel
theorem dX12_hurry_13 : decode cX12_hurry 13 = .ok (.iconst 4, 1) := by decide +kernel
theorem dX12_hurry_14 : decode cX12_hurry 14 = .ok (.invokevirtual 551, 3) := by decide +kernel
theorem dX12_hurry_17 : decode cX12_hurry 17 = .ok (.ireturn, 1) := by decide +kernel
theorem dX12_hurry_18 : decode cX12_hurry 18 = .ok (.iconst 0, 1) := by decide +kernel
theorem dX12_hurry_19 : decode cX12_hurry 19 = .ok (.istore_n 2, 1) := by decide +kernel
theorem dX12_hurry_20 : decode cX12_hurry 20 = .ok (.iload_n 2, 1) := by decide +kernel
theorem dX12_hurry_21 : decode cX12_hurry 21 = .ok (.iload_n 1, 1) := by decide +kernel
theorem dX12_hurry_22 : decode cX12_hurry 22 = .ok (.if_icmp .ge 21, 3) := by decide +kernel
theorem dX12_hurry_25 : decode cX12_hurry 25 = .ok (.aload_n 0, 1) := by decide +kernel
theorem dX12_hurry_26 : decode cX12_hurry 26 = .ok (.getfield 255, 3) := by decide +kernel
theorem dX12_hurry_29 : decode cX12_hurry 29 = .ok (.ifCond .le 14, 3) := by decide +kernel
theorem dX12_hurry_43 : decode cX12_hurry 43 = .ok (.aload_n 0, 1) := by decide +kernel
theorem dX12_hurry_44 : decode cX12_hurry 44 = .ok (.iload_n 2, 1) := by decide +kernel
theorem dX12_hurry_45 : decode cX12_hurry 45 = .ok (.invokevirtual 554, 3) := by decide +kernel
theorem dX12_hurry_48 : decode cX12_hurry 48 = .ok (.ireturn, 1) := by decide +kernel
theorem dX12_raise_0 : decode cX12_raise 0 = .ok (.iload_n 1, 1) := by decide +kernel
theorem dX12_raise_1 : decode cX12_raise 1 = .ok (.i2l, 1) := by decide +kernel
theorem dX12_raise_2 : decode cX12_raise 2 = .ok (.lconst 0, 1) := by decide +kernel
theorem dX12_raise_3 : decode cX12_raise 3 = .ok (.aload_n 0, 1) := by decide +kernel
theorem dX12_raise_4 : decode cX12_raise 4 = .ok (.getfield 565, 3) := by decide +kernel
theorem dX12_raise_7 : decode cX12_raise 7 = .ok (.iconst 1, 1) := by decide +kernel
theorem dX12_raise_8 : decode cX12_raise 8 = .ok (.isub, 1) := by decide +kernel
theorem dX12_raise_9 : decode cX12_raise 9 = .ok (.i2l, 1) := by decide +kernel
theorem dX12_raise_10 : decode cX12_raise 10 = .ok (.invokestatic 561, 3) := by decide +kernel
theorem dX12_raise_13 : decode cX12_raise 13 = .ok (.ifCond .ne 9, 3) := by decide +kernel
theorem dX12_raise_16 : decode cX12_raise 16 = .ok (.aload_n 0, 1) := by decide +kernel
theorem dX12_raise_17 : decode cX12_raise 17 = .ok (.iconst 1, 1) := by decide +kernel
theorem dX12_raise_18 : decode cX12_raise 18 = .ok (.invokevirtual 551, 3) := by decide +kernel
theorem dX12_raise_21 : decode cX12_raise 21 = .ok (.ireturn, 1) := by decide +kernel
theorem dX12_frames_0 : decode cX12_frames 0 = .ok (.aload_n 0, 1) := by decide +kernel
theorem dX12_frames_1 : decode cX12_frames 1 = .ok (.getfield 255, 3) := by decide +kernel
theorem dX12_frames_4 : decode cX12_frames 4 = .ok (.ireturn, 1) := by decide +kernel
theorem dX12_frame_0 : decode cX12_frame 0 = .ok (.aload_n 0, 1) := by decide +kernel
theorem dX12_frame_1 : decode cX12_frame 1 = .ok (.iload_n 1, 1) := by decide +kernel
theorem dX12_frame_2 : decode cX12_frame 2 = .ok (.invokevirtual 626, 3) := by decide +kernel
theorem dX12_frame_5 : decode cX12_frame 5 = .ok (.ifCond .ne 9, 3) := by decide +kernel
theorem dX12_frame_8 : decode cX12_frame 8 = .ok (.aload_n 0, 1) := by decide +kernel
theorem dX12_frame_9 : decode cX12_frame 9 = .ok (.iconst 2, 1) := by decide +kernel
theorem dX12_frame_10 : decode cX12_frame 10 = .ok (.invokevirtual 551, 3) := by decide +kernel
theorem dX12_frame_13 : decode cX12_frame 13 = .ok (.ireturn, 1) := by decide +kernel
theorem dX12_bytes_0 : decode cX12_bytes 0 = .ok (.aload_n 0, 1) := by decide +kernel
theorem dX12_bytes_1 : decode cX12_bytes 1 = .ok (.iload_n 1, 1) := by decide +kernel
theorem dX12_bytes_2 : decode cX12_bytes 2 = .ok (.invokevirtual 626, 3) := by decide +kernel
theorem dX12_bytes_5 : decode cX12_bytes 5 = .ok (.ifCond .eq 26, 3) := by decide +kernel
theorem dX12_bytes_31 : decode cX12_bytes 31 = .ok (.aload_n 0, 1) := by decide +kernel
theorem dX12_bytes_32 : decode cX12_bytes 32 = .ok (.iconst 2, 1) := by decide +kernel
theorem dX12_bytes_33 : decode cX12_bytes 33 = .ok (.invokevirtual 551, 3) := by decide +kernel
theorem dX12_bytes_36 : decode cX12_bytes 36 = .ok (.i2l, 1) := by decide +kernel
theorem dX12_bytes_37 : decode cX12_bytes 37 = .ok (.lreturn, 1) := by decide +kernel
theorem dX12_face_0 : decode cX12_face 0 = .ok (.iload_n 1, 1) := by decide +kernel
theorem dX12_face_1 : decode cX12_face 1 = .ok (.i2l, 1) := by decide +kernel
theorem dX12_face_2 : decode cX12_face 2 = .ok (.lconst 0, 1) := by decide +kernel
theorem dX12_face_3 : decode cX12_face 3 = .ok (.aload_n 0, 1) := by decide +kernel
theorem dX12_face_4 : decode cX12_face 4 = .ok (.getfield 399, 3) := by decide +kernel
theorem dX12_face_7 : decode cX12_face 7 = .ok (.iconst 1, 1) := by decide +kernel
theorem dX12_face_8 : decode cX12_face 8 = .ok (.isub, 1) := by decide +kernel
theorem dX12_face_9 : decode cX12_face 9 = .ok (.i2l, 1) := by decide +kernel
theorem dX12_face_10 : decode cX12_face 10 = .ok (.invokestatic 561, 3) := by decide +kernel
theorem dX12_face_13 : decode cX12_face 13 = .ok (.ifCond .ne 9, 3) := by decide +kernel
theorem dX12_face_16 : decode cX12_face 16 = .ok (.aload_n 0, 1) := by decide +kernel
theorem dX12_face_17 : decode cX12_face 17 = .ok (.iconst 1, 1) := by decide +kernel
theorem dX12_face_18 : decode cX12_face 18 = .ok (.invokevirtual 551, 3) := by decide +kernel
theorem dX12_face_21 : decode cX12_face 21 = .ok (.ireturn, 1) := by decide +kernel
theorem dX12_id_0 : decode cX12_id 0 = .ok (.iload_n 1, 1) := by decide +kernel
theorem dX12_id_1 : decode cX12_id 1 = .ok (.i2l, 1) := by decide +kernel
theorem dX12_id_2 : decode cX12_id 2 = .ok (.lconst 0, 1) := by decide +kernel
theorem dX12_id_3 : decode cX12_id 3 = .ok (.aload_n 0, 1) := by decide +kernel
theorem dX12_id_4 : decode cX12_id 4 = .ok (.getfield 399, 3) := by decide +kernel
theorem dX12_id_7 : decode cX12_id 7 = .ok (.iconst 1, 1) := by decide +kernel
theorem dX12_id_8 : decode cX12_id 8 = .ok (.isub, 1) := by decide +kernel
theorem dX12_id_9 : decode cX12_id 9 = .ok (.i2l, 1) := by decide +kernel
theorem dX12_id_10 : decode cX12_id 10 = .ok (.invokestatic 561, 3) := by decide +kernel
theorem dX12_id_13 : decode cX12_id 13 = .ok (.ifCond .ne 10, 3) := by decide +kernel
theorem dX12_id_16 : decode cX12_id 16 = .ok (.aload_n 0, 1) := by decide +kernel
theorem dX12_id_17 : decode cX12_id 17 = .ok (.iconst 1, 1) := by decide +kernel
theorem dX12_id_18 : decode cX12_id 18 = .ok (.invokevirtual 551, 3) := by decide +kernel
theorem dX12_id_21 : decode cX12_id 21 = .ok (.i2l, 1) := by decide +kernel
theorem dX12_id_22 : decode cX12_id 22 = .ok (.lreturn, 1) := by decide +kernel
theorem dX12_entry_0 : decode cX12_entry 0 = .ok (.iload_n 1, 1) := by decide +kernel
theorem dX12_entry_1 : decode cX12_entry 1 = .ok (.i2l, 1) := by decide +kernel
theorem dX12_entry_2 : decode cX12_entry 2 = .ok (.lconst 0, 1) := by decide +kernel
theorem dX12_entry_3 : decode cX12_entry 3 = .ok (.aload_n 0, 1) := by decide +kernel
theorem dX12_entry_4 : decode cX12_entry 4 = .ok (.getfield 399, 3) := by decide +kernel
theorem dX12_entry_7 : decode cX12_entry 7 = .ok (.iconst 1, 1) := by decide +kernel
theorem dX12_entry_8 : decode cX12_entry 8 = .ok (.isub, 1) := by decide +kernel
theorem dX12_entry_9 : decode cX12_entry 9 = .ok (.i2l, 1) := by decide +kernel
theorem dX12_entry_10 : decode cX12_entry 10 = .ok (.invokestatic 561, 3) := by decide +kernel
theorem dX12_entry_13 : decode cX12_entry 13 = .ok (.ifCond .ne 10, 3) := by decide +kernel
theorem dX12_entry_16 : decode cX12_entry 16 = .ok (.aload_n 0, 1) := by decide +kernel
theorem dX12_entry_17 : decode cX12_entry 17 = .ok (.iconst 1, 1) := by decide +kernel
theorem dX12_entry_18 : decode cX12_entry 18 = .ok (.invokevirtual 551, 3) := by decide +kernel
theorem dX12_entry_21 : decode cX12_entry 21 = .ok (.i2l, 1) := by decide +kernel
theorem dX12_entry_22 : decode cX12_entry 22 = .ok (.lreturn, 1) := by decide +kernel
theorem dX12_routerWhy_0 : decode cX12_routerWhy 0 = .ok (.aload_n 0, 1) := by decide +kernel
theorem dX12_routerWhy_1 : decode cX12_routerWhy 1 = .ok (.iload_n 1, 1) := by decide +kernel
theorem dX12_routerWhy_2 : decode cX12_routerWhy 2 = .ok (.invokevirtual 568, 3) := by decide +kernel
theorem dX12_routerWhy_5 : decode cX12_routerWhy 5 = .ok (.ifCond .ne 7, 3) := by decide +kernel
theorem dX12_routerWhy_8 : decode cX12_routerWhy 8 = .ok (.iconst 1, 1) := by decide +kernel
theorem dX12_routerWhy_9 : decode cX12_routerWhy 9 = .ok (.goto 17, 3) := by decide +kernel
theorem dX12_routerWhy_26 : decode cX12_routerWhy 26 = .ok (.ireturn, 1) := by decide +kernel
theorem dX12_routes_0 : decode cX12_routes 0 = .ok (.aload_n 0, 1) := by decide +kernel
theorem dX12_routes_1 : decode cX12_routes 1 = .ok (.iload_n 1, 1) := by decide +kernel
theorem dX12_routes_2 : decode cX12_routes 2 = .ok (.invokevirtual 636, 3) := by decide +kernel
theorem dX12_routes_5 : decode cX12_routes 5 = .ok (.istore_n 2, 1) := by decide +kernel
theorem dX12_routes_6 : decode cX12_routes 6 = .ok (.iload_n 2, 1) := by decide +kernel
theorem dX12_routes_7 : decode cX12_routes 7 = .ok (.ifCond .le 11, 3) := by decide +kernel
theorem dX12_routes_10 : decode cX12_routes 10 = .ok (.aload_n 0, 1) := by decide +kernel
theorem dX12_routes_11 : decode cX12_routes 11 = .ok (.iload_n 2, 1) := by decide +kernel
theorem dX12_routes_12 : decode cX12_routes 12 = .ok (.invokevirtual 551, 3) := by decide +kernel
theorem dX12_routes_15 : decode cX12_routes 15 = .ok (.goto 13, 3) := by decide +kernel
theorem dX12_routes_28 : decode cX12_routes 28 = .ok (.ireturn, 1) := by decide +kernel
theorem dX12_route_0 : decode cX12_route 0 = .ok (.aload_n 0, 1) := by decide +kernel
theorem dX12_route_1 : decode cX12_route 1 = .ok (.iload_n 1, 1) := by decide +kernel
theorem dX12_route_2 : decode cX12_route 2 = .ok (.invokevirtual 636, 3) := by decide +kernel
theorem dX12_route_5 : decode cX12_route 5 = .ok (.istore 4, 2) := by decide +kernel
theorem dX12_route_7 : decode cX12_route 7 = .ok (.iload 4, 2) := by decide +kernel
theorem dX12_route_9 : decode cX12_route 9 = .ok (.ifCond .le 11, 3) := by decide +kernel
theorem dX12_route_12 : decode cX12_route 12 = .ok (.aload_n 0, 1) := by decide +kernel
theorem dX12_route_13 : decode cX12_route 13 = .ok (.iload 4, 2) := by decide +kernel
theorem dX12_route_15 : decode cX12_route 15 = .ok (.invokevirtual 551, 3) := by decide +kernel
theorem dX12_route_18 : decode cX12_route 18 = .ok (.i2l, 1) := by decide +kernel
theorem dX12_route_19 : decode cX12_route 19 = .ok (.lreturn, 1) := by decide +kernel
theorem dX12_way_0 : decode cX12_way 0 = .ok (.aload_n 0, 1) := by decide +kernel
theorem dX12_way_1 : decode cX12_way 1 = .ok (.iload_n 1, 1) := by decide +kernel
theorem dX12_way_2 : decode cX12_way 2 = .ok (.invokevirtual 636, 3) := by decide +kernel
theorem dX12_way_5 : decode cX12_way 5 = .ok (.istore 4, 2) := by decide +kernel
theorem dX12_way_7 : decode cX12_way 7 = .ok (.iload 4, 2) := by decide +kernel
theorem dX12_way_9 : decode cX12_way 9 = .ok (.ifCond .le 10, 3) := by decide +kernel
theorem dX12_way_12 : decode cX12_way 12 = .ok (.aload_n 0, 1) := by decide +kernel
theorem dX12_way_13 : decode cX12_way 13 = .ok (.iload 4, 2) := by decide +kernel
theorem dX12_way_15 : decode cX12_way 15 = .ok (.invokevirtual 551, 3) := by decide +kernel
theorem dX12_way_18 : decode cX12_way 18 = .ok (.ireturn, 1) := by decide +kernel
theorem dX12_hostsWhy_0 : decode cX12_hostsWhy 0 = .ok (.aload_n 0, 1) := by decide +kernel
theorem dX12_hostsWhy_1 : decode cX12_hostsWhy 1 = .ok (.iload_n 1, 1) := by decide +kernel
theorem dX12_hostsWhy_2 : decode cX12_hostsWhy 2 = .ok (.invokevirtual 568, 3) := by decide +kernel
theorem dX12_hostsWhy_5 : decode cX12_hostsWhy 5 = .ok (.ifCond .eq 11, 3) := by decide +kernel
theorem dX12_hostsWhy_16 : decode cX12_hostsWhy 16 = .ok (.iconst 1, 1) := by decide +kernel
theorem dX12_hostsWhy_17 : decode cX12_hostsWhy 17 = .ok (.goto 26, 3) := by decide +kernel
theorem dX12_hostsWhy_43 : decode cX12_hostsWhy 43 = .ok (.ireturn, 1) := by decide +kernel
theorem dX12_heard_0 : decode cX12_heard 0 = .ok (.aload_n 0, 1) := by decide +kernel
theorem dX12_heard_1 : decode cX12_heard 1 = .ok (.iload_n 1, 1) := by decide +kernel
theorem dX12_heard_2 : decode cX12_heard 2 = .ok (.iload_n 2, 1) := by decide +kernel
theorem dX12_heard_3 : decode cX12_heard 3 = .ok (.invokevirtual 639, 3) := by decide +kernel
theorem dX12_heard_6 : decode cX12_heard 6 = .ok (.istore_n 3, 1) := by decide +kernel
theorem dX12_heard_7 : decode cX12_heard 7 = .ok (.iload_n 3, 1) := by decide +kernel
theorem dX12_heard_8 : decode cX12_heard 8 = .ok (.ifCond .le 11, 3) := by decide +kernel
theorem dX12_heard_11 : decode cX12_heard 11 = .ok (.aload_n 0, 1) := by decide +kernel
theorem dX12_heard_12 : decode cX12_heard 12 = .ok (.iload_n 3, 1) := by decide +kernel
theorem dX12_heard_13 : decode cX12_heard 13 = .ok (.invokevirtual 551, 3) := by decide +kernel
theorem dX12_heard_16 : decode cX12_heard 16 = .ok (.goto 18, 3) := by decide +kernel
theorem dX12_heard_34 : decode cX12_heard 34 = .ok (.ireturn, 1) := by decide +kernel
theorem dX12_got_0 : decode cX12_got 0 = .ok (.aload_n 0, 1) := by decide +kernel
theorem dX12_got_1 : decode cX12_got 1 = .ok (.iload_n 1, 1) := by decide +kernel
theorem dX12_got_2 : decode cX12_got 2 = .ok (.iload_n 2, 1) := by decide +kernel
theorem dX12_got_3 : decode cX12_got 3 = .ok (.invokevirtual 639, 3) := by decide +kernel
theorem dX12_got_6 : decode cX12_got 6 = .ok (.istore 5, 2) := by decide +kernel
theorem dX12_got_8 : decode cX12_got 8 = .ok (.iload 5, 2) := by decide +kernel
theorem dX12_got_10 : decode cX12_got 10 = .ok (.ifCond .le 10, 3) := by decide +kernel
theorem dX12_got_13 : decode cX12_got 13 = .ok (.aload_n 0, 1) := by decide +kernel
theorem dX12_got_14 : decode cX12_got 14 = .ok (.iload 5, 2) := by decide +kernel
theorem dX12_got_16 : decode cX12_got 16 = .ok (.invokevirtual 551, 3) := by decide +kernel
theorem dX12_got_19 : decode cX12_got 19 = .ok (.ireturn, 1) := by decide +kernel
theorem dX12_sent_0 : decode cX12_sent 0 = .ok (.aload_n 0, 1) := by decide +kernel
theorem dX12_sent_1 : decode cX12_sent 1 = .ok (.iload_n 1, 1) := by decide +kernel
theorem dX12_sent_2 : decode cX12_sent 2 = .ok (.iload_n 2, 1) := by decide +kernel
theorem dX12_sent_3 : decode cX12_sent 3 = .ok (.invokevirtual 639, 3) := by decide +kernel
theorem dX12_sent_6 : decode cX12_sent 6 = .ok (.istore 4, 2) := by decide +kernel
theorem dX12_sent_8 : decode cX12_sent 8 = .ok (.iload 4, 2) := by decide +kernel
theorem dX12_sent_10 : decode cX12_sent 10 = .ok (.ifCond .le 10, 3) := by decide +kernel
theorem dX12_sent_13 : decode cX12_sent 13 = .ok (.aload_n 0, 1) := by decide +kernel
theorem dX12_sent_14 : decode cX12_sent 14 = .ok (.iload 4, 2) := by decide +kernel
theorem dX12_sent_16 : decode cX12_sent 16 = .ok (.invokevirtual 551, 3) := by decide +kernel
theorem dX12_sent_19 : decode cX12_sent 19 = .ok (.ireturn, 1) := by decide +kernel
theorem dX12_mtu_0 : decode cX12_mtu 0 = .ok (.aload_n 0, 1) := by decide +kernel
theorem dX12_mtu_1 : decode cX12_mtu 1 = .ok (.iload_n 1, 1) := by decide +kernel
theorem dX12_mtu_2 : decode cX12_mtu 2 = .ok (.invokevirtual 568, 3) := by decide +kernel
theorem dX12_mtu_5 : decode cX12_mtu 5 = .ok (.ifCond .ne 9, 3) := by decide +kernel
theorem dX12_mtu_8 : decode cX12_mtu 8 = .ok (.aload_n 0, 1) := by decide +kernel
theorem dX12_mtu_9 : decode cX12_mtu 9 = .ok (.iconst 1, 1) := by decide +kernel
theorem dX12_mtu_10 : decode cX12_mtu 10 = .ok (.invokevirtual 551, 3) := by decide +kernel
theorem dX12_mtu_13 : decode cX12_mtu 13 = .ok (.ireturn, 1) := by decide +kernel
theorem dX12_count_0 : decode cX12_count 0 = .ok (.aload_n 0, 1) := by decide +kernel
theorem dX12_count_1 : decode cX12_count 1 = .ok (.iload_n 1, 1) := by decide +kernel
theorem dX12_count_2 : decode cX12_count 2 = .ok (.invokevirtual 568, 3) := by decide +kernel
theorem dX12_count_5 : decode cX12_count 5 = .ok (.ifCond .ne 9, 3) := by decide +kernel
theorem dX12_count_8 : decode cX12_count 8 = .ok (.aload_n 0, 1) := by decide +kernel
theorem dX12_count_9 : decode cX12_count 9 = .ok (.iconst 1, 1) := by decide +kernel
theorem dX12_count_10 : decode cX12_count 10 = .ok (.invokevirtual 551, 3) := by decide +kernel
theorem dX12_count_13 : decode cX12_count 13 = .ok (.ireturn, 1) := by decide +kernel
theorem dX12_world_0 : decode cX12_world 0 = .ok (.iload_n 1, 1) := by decide +kernel
theorem dX12_world_1 : decode cX12_world 1 = .ok (.tableswitch 106 0 6 #[43, 52, 61, 70, 79, 88, 97], 43) := by decide +kernel
theorem dX12_world_44 : decode cX12_world 44 = .ok (.aload_n 0, 1) := by decide +kernel
theorem dX12_world_45 : decode cX12_world 45 = .ok (.aload_n 0, 1) := by decide +kernel
theorem dX12_world_46 : decode cX12_world 46 = .ok (.getfield 271, 3) := by decide +kernel
theorem dX12_world_49 : decode cX12_world 49 = .ok (.invokevirtual 554, 3) := by decide +kernel
theorem dX12_world_52 : decode cX12_world 52 = .ok (.ireturn, 1) := by decide +kernel
theorem dX12_world_53 : decode cX12_world 53 = .ok (.aload_n 0, 1) := by decide +kernel
theorem dX12_world_54 : decode cX12_world 54 = .ok (.aload_n 0, 1) := by decide +kernel
theorem dX12_world_55 : decode cX12_world 55 = .ok (.getfield 239, 3) := by decide +kernel
theorem dX12_world_58 : decode cX12_world 58 = .ok (.invokevirtual 554, 3) := by decide +kernel
theorem dX12_world_61 : decode cX12_world 61 = .ok (.ireturn, 1) := by decide +kernel
theorem dX12_world_62 : decode cX12_world 62 = .ok (.aload_n 0, 1) := by decide +kernel
theorem dX12_world_63 : decode cX12_world 63 = .ok (.aload_n 0, 1) := by decide +kernel
theorem dX12_world_64 : decode cX12_world 64 = .ok (.getfield 565, 3) := by decide +kernel
theorem dX12_world_67 : decode cX12_world 67 = .ok (.invokevirtual 554, 3) := by decide +kernel
theorem dX12_world_70 : decode cX12_world 70 = .ok (.ireturn, 1) := by decide +kernel
theorem dX12_world_71 : decode cX12_world 71 = .ok (.aload_n 0, 1) := by decide +kernel
theorem dX12_world_72 : decode cX12_world 72 = .ok (.aload_n 0, 1) := by decide +kernel
theorem dX12_world_73 : decode cX12_world 73 = .ok (.getfield 399, 3) := by decide +kernel
theorem dX12_world_76 : decode cX12_world 76 = .ok (.invokevirtual 554, 3) := by decide +kernel
theorem dX12_world_79 : decode cX12_world 79 = .ok (.ireturn, 1) := by decide +kernel
theorem dX12_world_80 : decode cX12_world 80 = .ok (.aload_n 0, 1) := by decide +kernel
theorem dX12_world_81 : decode cX12_world 81 = .ok (.aload_n 0, 1) := by decide +kernel
theorem dX12_world_82 : decode cX12_world 82 = .ok (.getfield 274, 3) := by decide +kernel
theorem dX12_world_85 : decode cX12_world 85 = .ok (.invokevirtual 554, 3) := by decide +kernel
theorem dX12_world_88 : decode cX12_world 88 = .ok (.ireturn, 1) := by decide +kernel
theorem dX12_world_89 : decode cX12_world 89 = .ok (.aload_n 0, 1) := by decide +kernel
theorem dX12_world_90 : decode cX12_world 90 = .ok (.aload_n 0, 1) := by decide +kernel
theorem dX12_world_91 : decode cX12_world 91 = .ok (.getfield 258, 3) := by decide +kernel
theorem dX12_world_94 : decode cX12_world 94 = .ok (.invokevirtual 554, 3) := by decide +kernel
theorem dX12_world_97 : decode cX12_world 97 = .ok (.ireturn, 1) := by decide +kernel
theorem dX12_world_98 : decode cX12_world 98 = .ok (.aload_n 0, 1) := by decide +kernel
theorem dX12_world_99 : decode cX12_world 99 = .ok (.aload_n 0, 1) := by decide +kernel
theorem dX12_world_100 : decode cX12_world 100 = .ok (.getfield 297, 3) := by decide +kernel
theorem dX12_world_103 : decode cX12_world 103 = .ok (.invokevirtual 554, 3) := by decide +kernel
theorem dX12_world_106 : decode cX12_world 106 = .ok (.ireturn, 1) := by decide +kernel
theorem dX12_world_107 : decode cX12_world 107 = .ok (.aload_n 0, 1) := by decide +kernel
theorem dX12_world_108 : decode cX12_world 108 = .ok (.iconst 4, 1) := by decide +kernel
theorem dX12_world_109 : decode cX12_world 109 = .ok (.invokevirtual 551, 3) := by decide +kernel
theorem dX12_world_112 : decode cX12_world 112 = .ok (.ireturn, 1) := by decide +kernel
theorem dX12_status_0 : decode cX12_status 0 = .ok (.aload_n 0, 1) := by decide +kernel
theorem dX12_status_1 : decode cX12_status 1 = .ok (.getfield 235, 3) := by decide +kernel
theorem dX12_status_4 : decode cX12_status 4 = .ok (.ireturn, 1) := by decide +kernel
abbrev vwCl : List vw_C := [(RX0, TX0, 6), (RX1, TX1, 10), (RX2, TX2, 3), (RX3, TX3, 4), (RX4, TX4, 5), (RX5, TX5, 15), (RX6, TX6, 6), (RX7, TX7, 8), (RX8, TX8, 7), (RX9, TX9, 2), (RX10, TX10, 12), (RX11, TX11, 20), (RX12, TX12, 84)]
set_option maxRecDepth 20000 in
theorem gt_wsX90 : GoodIn lw_tbl wsX90 := goodIn_p _ [] (by decide +kernel) (by decide +kernel)
set_option maxRecDepth 20000 in
theorem gt_wsX60 : GoodIn lw_tbl wsX60 := goodIn_p _ [] (by decide +kernel) (by decide +kernel)
set_option maxRecDepth 20000 in
theorem gt_wsX40 : GoodIn lw_tbl wsX40 := goodIn_p _ [] (by decide +kernel) (by decide +kernel)
set_option maxRecDepth 20000 in
theorem gt_wsX50 : GoodIn lw_tbl wsX50 := goodIn_p _ [] (by decide +kernel) (by decide +kernel)
set_option maxRecDepth 20000 in
theorem gt_wsX20 : GoodIn lw_tbl wsX20 := goodIn_p _ [] (by decide +kernel) (by decide +kernel)
set_option maxRecDepth 20000 in
theorem gt_wsX110 : GoodIn lw_tbl wsX110 := goodIn_p _ [] (by decide +kernel) (by decide +kernel)
set_option maxRecDepth 20000 in
theorem gt_wsX30 : GoodIn lw_tbl wsX30 := goodIn_p _ [] (by decide +kernel) (by decide +kernel)
set_option maxRecDepth 20000 in
theorem gt_wsX120 : GoodIn lw_tbl wsX120 := goodIn_p _ [] (by decide +kernel) (by decide +kernel)
