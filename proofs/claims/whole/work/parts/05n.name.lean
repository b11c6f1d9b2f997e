/-- the name of a method of the connection, as the Statement has it -/
def nm_get (c : Option Cond) : String := match c with
  | some (Cond.code y _ _ _) => y.name
  | _ => ""
def nm_adm : String := nm_get tables_1[518]?
def y_Con_admit : MethodName := ⟨"FrontCache$Connection", nm_adm, "(LFrontCache$Request;ILFrontCache$UnderWay;)V"⟩
theorem nm_ok : tables_1[518]? = some (Cond.code y_Con_admit prog_2_method_2_code 4 none) := by decide +kernel
