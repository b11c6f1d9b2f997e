def R_FC : String := "FrontCache"
def T_FC : u_T := fun k => match k with
  | 0 => ("FrontCache", "draft", "LFrontCache$Draft;", true)
  | 1 => ("FrontCache", "store", "LFrontCache$Store;", true)
  | 2 => ("FrontCache", "underWay", "LFrontCache$UnderWay;", true)
  | 3 => ("FrontCache", "absent", "LFrontCache$Resource;", true)
  | 4 => ("FrontCache", "resources", "[LFrontCache$Resource;", true)
  | 5 => ("FrontCache", "origins", "[LFrontCache$Origin;", true)
  | 6 => ("FrontCache", "connections", "[LFrontCache$Connection;", true)
  | 7 => ("FrontCache", "latestRequests", "[LFrontCache$Request;", true)
  | 8 => ("FrontCache", "time", "I", false)
  | 9 => ("FrontCache", "lastVersion", "I", false)
  | _ => ("FrontCache", "lastRequest", "I", false)
def ty_FC : Nat → FieldType := fun k => match k with
  | 0 => .object "FrontCache$Draft"
  | 1 => .object "FrontCache$Store"
  | 2 => .object "FrontCache$UnderWay"
  | 3 => .object "FrontCache$Resource"
  | 4 => .array (.object "FrontCache$Resource")
  | 5 => .array (.object "FrontCache$Origin")
  | 6 => .array (.object "FrontCache$Connection")
  | 7 => .array (.object "FrontCache$Request")
  | 8 => .int
  | 9 => .int
  | _ => .int
theorem nm_FC : ∀ a, a < 11 → ∀ b, b < 11 → a ≠ b → (T_FC a).2.1 ≠ (T_FC b).2.1 := by decide +kernel
theorem tyok_FC : ∀ k, k < 11 → parseFieldDescriptor (T_FC k).2.2.1 = some (ty_FC k) := by decide +kernel
def R_Ctl : String := "FrontCache$Control"
def T_Ctl : u_T := fun k => match k with
  | _ => ("FrontCache$Control", "numbers", "[I", true)
def ty_Ctl : Nat → FieldType := fun k => match k with
  | _ => .array .int
theorem nm_Ctl : ∀ a, a < 1 → ∀ b, b < 1 → a ≠ b → (T_Ctl a).2.1 ≠ (T_Ctl b).2.1 := by decide +kernel
theorem tyok_Ctl : ∀ k, k < 1 → parseFieldDescriptor (T_Ctl k).2.2.1 = some (ty_Ctl k) := by decide +kernel
def R_Drf : String := "FrontCache$Draft"
def T_Drf : u_T := fun k => match k with
  | 0 => ("FrontCache$Draft", "text", "[C", true)
  | _ => ("FrontCache$Draft", "length", "I", false)
def ty_Drf : Nat → FieldType := fun k => match k with
  | 0 => .array .char
  | _ => .int
theorem nm_Drf : ∀ a, a < 2 → ∀ b, b < 2 → a ≠ b → (T_Drf a).2.1 ≠ (T_Drf b).2.1 := by decide +kernel
theorem tyok_Drf : ∀ k, k < 2 → parseFieldDescriptor (T_Drf k).2.2.1 = some (ty_Drf k) := by decide +kernel
def R_Res : String := "FrontCache$Resource"
def T_Res : u_T := fun k => match k with
  | 0 => ("FrontCache$Resource", "version", "I", true)
  | 1 => ("FrontCache$Resource", "size", "I", true)
  | 2 => ("FrontCache$Resource", "varies", "Z", true)
  | _ => ("FrontCache$Resource", "control", "LFrontCache$Control;", true)
def ty_Res : Nat → FieldType := fun k => match k with
  | 0 => .int
  | 1 => .int
  | 2 => .boolean
  | _ => .object "FrontCache$Control"
theorem nm_Res : ∀ a, a < 4 → ∀ b, b < 4 → a ≠ b → (T_Res a).2.1 ≠ (T_Res b).2.1 := by decide +kernel
theorem tyok_Res : ∀ k, k < 4 → parseFieldDescriptor (T_Res k).2.2.1 = some (ty_Res k) := by decide +kernel
def R_Ent : String := "FrontCache$Entry"
def T_Ent : u_T := fun k => match k with
  | 0 => ("FrontCache$Entry", "path", "I", true)
  | 1 => ("FrontCache$Entry", "variant", "I", true)
  | 2 => ("FrontCache$Entry", "resource", "LFrontCache$Resource;", true)
  | 3 => ("FrontCache$Entry", "tag", "I", true)
  | 4 => ("FrontCache$Entry", "control", "LFrontCache$Control;", false)
  | _ => ("FrontCache$Entry", "date", "I", false)
def ty_Ent : Nat → FieldType := fun k => match k with
  | 0 => .int
  | 1 => .int
  | 2 => .object "FrontCache$Resource"
  | 3 => .int
  | 4 => .object "FrontCache$Control"
  | _ => .int
theorem nm_Ent : ∀ a, a < 6 → ∀ b, b < 6 → a ≠ b → (T_Ent a).2.1 ≠ (T_Ent b).2.1 := by decide +kernel
theorem tyok_Ent : ∀ k, k < 6 → parseFieldDescriptor (T_Ent k).2.2.1 = some (ty_Ent k) := by decide +kernel
def R_Sto : String := "FrontCache$Store"
def T_Sto : u_T := fun k => match k with
  | 0 => ("FrontCache$Store", "capacity", "I", true)
  | 1 => ("FrontCache$Store", "rows", "[LFrontCache$Entry;", true)
  | 2 => ("FrontCache$Store", "filled", "I", false)
  | _ => ("FrontCache$Store", "count", "I", false)
def ty_Sto : Nat → FieldType := fun k => match k with
  | 0 => .int
  | 1 => .array (.object "FrontCache$Entry")
  | 2 => .int
  | _ => .int
theorem nm_Sto : ∀ a, a < 4 → ∀ b, b < 4 → a ≠ b → (T_Sto a).2.1 ≠ (T_Sto b).2.1 := by decide +kernel
theorem tyok_Sto : ∀ k, k < 4 → parseFieldDescriptor (T_Sto k).2.2.1 = some (ty_Sto k) := by decide +kernel
def R_Req : String := "FrontCache$Request"
def T_Req : u_T := fun k => match k with
  | 0 => ("FrontCache$Request", "number", "I", true)
  | 1 => ("FrontCache$Request", "kind", "I", true)
  | 2 => ("FrontCache$Request", "path", "I", true)
  | 3 => ("FrontCache$Request", "variant", "I", true)
  | 4 => ("FrontCache$Request", "size", "I", true)
  | 5 => ("FrontCache$Request", "knownTag", "I", true)
  | 6 => ("FrontCache$Request", "control", "LFrontCache$Control;", true)
  | 7 => ("FrontCache$Request", "toConfirm", "LFrontCache$Entry;", false)
  | 8 => ("FrontCache$Request", "status", "I", false)
  | 9 => ("FrontCache$Request", "answerTag", "I", false)
  | 10 => ("FrontCache$Request", "answerAge", "I", false)
  | _ => ("FrontCache$Request", "way", "I", false)
def ty_Req : Nat → FieldType := fun k => match k with
  | 0 => .int
  | 1 => .int
  | 2 => .int
  | 3 => .int
  | 4 => .int
  | 5 => .int
  | 6 => .object "FrontCache$Control"
  | 7 => .object "FrontCache$Entry"
  | 8 => .int
  | 9 => .int
  | 10 => .int
  | _ => .int
theorem nm_Req : ∀ a, a < 12 → ∀ b, b < 12 → a ≠ b → (T_Req a).2.1 ≠ (T_Req b).2.1 := by decide +kernel
theorem tyok_Req : ∀ k, k < 12 → parseFieldDescriptor (T_Req k).2.2.1 = some (ty_Req k) := by decide +kernel
def R_Msg : String := "FrontCache$Message"
def T_Msg : u_T := fun k => match k with
  | 0 => ("FrontCache$Message", "origin", "I", true)
  | 1 => ("FrontCache$Message", "isAnswer", "Z", true)
  | 2 => ("FrontCache$Message", "number", "I", true)
  | 3 => ("FrontCache$Message", "what", "I", true)
  | 4 => ("FrontCache$Message", "tag", "I", true)
  | 5 => ("FrontCache$Message", "request", "LFrontCache$Request;", true)
  | 6 => ("FrontCache$Message", "resource", "LFrontCache$Resource;", true)
  | _ => ("FrontCache$Message", "date", "I", true)
def ty_Msg : Nat → FieldType := fun k => match k with
  | 0 => .int
  | 1 => .boolean
  | 2 => .int
  | 3 => .int
  | 4 => .int
  | 5 => .object "FrontCache$Request"
  | 6 => .object "FrontCache$Resource"
  | _ => .int
theorem nm_Msg : ∀ a, a < 8 → ∀ b, b < 8 → a ≠ b → (T_Msg a).2.1 ≠ (T_Msg b).2.1 := by decide +kernel
theorem tyok_Msg : ∀ k, k < 8 → parseFieldDescriptor (T_Msg k).2.2.1 = some (ty_Msg k) := by decide +kernel
def R_UW : String := "FrontCache$UnderWay"
def T_UW : u_T := fun k => match k with
  | 0 => ("FrontCache$UnderWay", "messages", "[LFrontCache$Message;", true)
  | _ => ("FrontCache$UnderWay", "count", "I", false)
def ty_UW : Nat → FieldType := fun k => match k with
  | 0 => .array (.object "FrontCache$Message")
  | _ => .int
theorem nm_UW : ∀ a, a < 2 → ∀ b, b < 2 → a ≠ b → (T_UW a).2.1 ≠ (T_UW b).2.1 := by decide +kernel
theorem tyok_UW : ∀ k, k < 2 → parseFieldDescriptor (T_UW k).2.2.1 = some (ty_UW k) := by decide +kernel
def R_Org : String := "FrontCache$Origin"
def T_Org : u_T := fun k => match k with
  | 0 => ("FrontCache$Origin", "runs", "Z", false)
  | 1 => ("FrontCache$Origin", "lastNumber", "I", false)
  | _ => ("FrontCache$Origin", "lastAnswer", "LFrontCache$Message;", false)
def ty_Org : Nat → FieldType := fun k => match k with
  | 0 => .boolean
  | 1 => .int
  | _ => .object "FrontCache$Message"
theorem nm_Org : ∀ a, a < 3 → ∀ b, b < 3 → a ≠ b → (T_Org a).2.1 ≠ (T_Org b).2.1 := by decide +kernel
theorem tyok_Org : ∀ k, k < 3 → parseFieldDescriptor (T_Org k).2.2.1 = some (ty_Org k) := by decide +kernel
def R_Con : String := "FrontCache$Connection"
def T_Con : u_T := fun k => match k with
  | 0 => ("FrontCache$Connection", "origin", "I", true)
  | 1 => ("FrontCache$Connection", "probe", "LFrontCache$Message;", true)
  | 2 => ("FrontCache$Connection", "queue", "[LFrontCache$Request;", true)
  | 3 => ("FrontCache$Connection", "count", "I", false)
  | 4 => ("FrontCache$Connection", "lastNumber", "I", false)
  | 5 => ("FrontCache$Connection", "work", "LFrontCache$Message;", false)
  | 6 => ("FrontCache$Connection", "workSince", "I", false)
  | 7 => ("FrontCache$Connection", "givenUpInRow", "I", false)
  | 8 => ("FrontCache$Connection", "isDown", "Z", false)
  | _ => ("FrontCache$Connection", "downSince", "I", false)
def ty_Con : Nat → FieldType := fun k => match k with
  | 0 => .int
  | 1 => .object "FrontCache$Message"
  | 2 => .array (.object "FrontCache$Request")
  | 3 => .int
  | 4 => .int
  | 5 => .object "FrontCache$Message"
  | 6 => .int
  | 7 => .int
  | 8 => .boolean
  | _ => .int
theorem nm_Con : ∀ a, a < 10 → ∀ b, b < 10 → a ≠ b → (T_Con a).2.1 ≠ (T_Con b).2.1 := by decide +kernel
theorem tyok_Con : ∀ k, k < 10 → parseFieldDescriptor (T_Con k).2.2.1 = some (ty_Con k) := by decide +kernel
def R_Mdl : String := "FrontCacheModel"
def T_Mdl : u_T := fun k => match k with
  | 0 => ("FrontCacheModel", "capacity", "I", true)
  | 1 => ("FrontCacheModel", "time", "I", false)
  | 2 => ("FrontCacheModel", "versions", "I", false)
  | 3 => ("FrontCacheModel", "draft", "[C", true)
  | 4 => ("FrontCacheModel", "size", "I", false)
  | 5 => ("FrontCacheModel", "read", "[I", true)
  | 6 => ("FrontCacheModel", "names", "[C", true)
  | 7 => ("FrontCacheModel", "others", "[C", true)
  | 8 => ("FrontCacheModel", "version", "[I", true)
  | 9 => ("FrontCacheModel", "big", "[I", true)
  | 10 => ("FrontCacheModel", "vary", "[I", true)
  | 11 => ("FrontCacheModel", "control", "[I", true)
  | 12 => ("FrontCacheModel", "stored", "I", false)
  | 13 => ("FrontCacheModel", "newest", "I", false)
  | 14 => ("FrontCacheModel", "entry", "[I", true)
  | 15 => ("FrontCacheModel", "rule", "[I", true)
  | 16 => ("FrontCacheModel", "made", "I", false)
  | 17 => ("FrontCacheModel", "status", "[I", true)
  | 18 => ("FrontCacheModel", "tag", "[I", true)
  | 19 => ("FrontCacheModel", "age", "[I", true)
  | 20 => ("FrontCacheModel", "way", "[I", true)
  | 21 => ("FrontCacheModel", "count", "[I", true)
  | 22 => ("FrontCacheModel", "wait", "[I", true)
  | 23 => ("FrontCacheModel", "wish", "[I", true)
  | 24 => ("FrontCacheModel", "given", "[I", true)
  | 25 => ("FrontCacheModel", "since", "[I", true)
  | 26 => ("FrontCacheModel", "lost", "[I", true)
  | 27 => ("FrontCacheModel", "down", "[Z", true)
  | 28 => ("FrontCacheModel", "stopped", "[Z", true)
  | 29 => ("FrontCacheModel", "taken", "[I", true)
  | 30 => ("FrontCacheModel", "flying", "I", false)
  | _ => ("FrontCacheModel", "row", "[I", true)
def ty_Mdl : Nat → FieldType := fun k => match k with
  | 0 => .int
  | 1 => .int
  | 2 => .int
  | 3 => .array .char
  | 4 => .int
  | 5 => .array .int
  | 6 => .array .char
  | 7 => .array .char
  | 8 => .array .int
  | 9 => .array .int
  | 10 => .array .int
  | 11 => .array .int
  | 12 => .int
  | 13 => .int
  | 14 => .array .int
  | 15 => .array .int
  | 16 => .int
  | 17 => .array .int
  | 18 => .array .int
  | 19 => .array .int
  | 20 => .array .int
  | 21 => .array .int
  | 22 => .array .int
  | 23 => .array .int
  | 24 => .array .int
  | 25 => .array .int
  | 26 => .array .int
  | 27 => .array .boolean
  | 28 => .array .boolean
  | 29 => .array .int
  | 30 => .int
  | _ => .array .int
theorem nm_Mdl : ∀ a, a < 32 → ∀ b, b < 32 → a ≠ b → (T_Mdl a).2.1 ≠ (T_Mdl b).2.1 := by decide +kernel
theorem tyok_Mdl : ∀ k, k < 32 → parseFieldDescriptor (T_Mdl k).2.2.1 = some (ty_Mdl k) := by decide +kernel
def vwCl : List vw_C := [(R_FC, T_FC, 11), (R_Ctl, T_Ctl, 1), (R_Drf, T_Drf, 2), (R_Res, T_Res, 4), (R_Ent, T_Ent, 6), (R_Sto, T_Sto, 4), (R_Req, T_Req, 12), (R_Msg, T_Msg, 8), (R_UW, T_UW, 2), (R_Org, T_Org, 3), (R_Con, T_Con, 10), (R_Mdl, T_Mdl, 32)]
def ex_nf (c : Nat) : Nat := [11, 1, 2, 4, 6, 4, 12, 8, 2, 3, 10, 32].getD c 0
def ex_il : List (List Bool) := [[false, false, false, false, false, false, false, false, true, true, true], [false], [false, true], [true, true, true, false], [true, true, false, true, false, true], [true, false, true, true], [true, true, true, true, true, true, false, false, true, true, true, true], [true, true, true, true, true, false, false, true], [false, true], [true, true, false], [true, false, false, true, true, false, true, true, true, true], [true, true, true, false, true, false, false, false, false, false, false, false, true, true, false, false, true, false, false, false, false, false, false, false, false, false, false, false, false, false, true, false]]
def ex_it (c j : Nat) : Bool := (ex_il.getD c []).getD j true
def ex_WS : List Cond := lw_tbl.filter goodWord
theorem ex_mem {w : Cond} (h : w ∈ lw_tbl) (g : goodWord w = true) : w ∈ ex_WS := List.mem_filter.mpr ⟨h, g⟩
theorem ex_good {c c2 : Cond} (h : c2 ∈ ex_WS) : GoodIn (c :: ex_WS) (c2 :: ex_WS) := by
  have key : ∀ w, w ∈ ex_WS → w ∈ c :: ex_WS ∧ ((w.onTables && w.keeps) = true ∨ ∃ ty, w = .arrayClass ty) := fun w hw => ⟨List.mem_cons_of_mem _ hw, good_of_word (List.mem_filter.mp hw).2⟩
  intro w hw
  rcases List.mem_cons.mp hw with e | e
  · rw [e]; exact key _ h
  · exact key w e
def ex_NF : List (String × Nat × String × String × String × String) := [("FrontCache", 182, "FrontCache$Store", "count", "I", "FrontCache"), ("FrontCache", 169, "FrontCache$UnderWay", "count", "I", "FrontCache"), ("FrontCache", 221, "FrontCache$Connection", "count", "I", "FrontCache"), ("FrontCache", 218, "FrontCache$Connection", "isDown", "Z", "FrontCache")]
def ex_NM : List (String × Nat × MethodName × String) := [("FrontCache", 9, ⟨"FrontCache$Draft", "<init>", "()V"⟩, "FrontCache"), ("FrontCache", 27, ⟨"FrontCache$UnderWay", "<init>", "()V"⟩, "FrontCache"), ("FrontCache", 60, ⟨"FrontCache$Origin", "<init>", "()V"⟩, "FrontCache")]
def ex_AO : List String := ["FrontCache$Resource", "FrontCache$Origin", "FrontCache$Connection", "FrontCache$Request", "FrontCache$Entry", "FrontCache$Message"]
def sl_ix : List Nat := [21, 23, 25, 27, 29, 31, 33]
def sl_tx : List String := ["no-cache", "no-store", "private", "only-if-cached", "max-age", "s-maxage", "min-fresh"]
def sl_len : List Nat := [8, 8, 7, 14, 7, 8, 9]
def sl_byt : List (List Int32) := [[110, 111, 45, 99, 97, 99, 104, 101], [110, 111, 45, 115, 116, 111, 114, 101], [112, 114, 105, 118, 97, 116, 101], [111, 110, 108, 121, 45, 105, 102, 45, 99, 97, 99, 104, 101, 100], [109, 97, 120, 45, 97, 103, 101], [115, 45, 109, 97, 120, 97, 103, 101], [109, 105, 110, 45, 102, 114, 101, 115, 104]]
