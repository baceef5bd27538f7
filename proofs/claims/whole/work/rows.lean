section
-- ===== PART A: goes FIRST, ahead of the names: the tables' words, and 'selects' of the private methods out of them =====
/-- a private method of a class that the tables say can be made, by its rows of tables_1 -/
def lw_okq (q : MethodName × Nat) : Prop := (q.1.cls ≠ "java/lang/invoke/MethodHandle" ∧ q.1.cls ≠ "java/lang/invoke/VarHandle") ∧ Cond.instantiable q.1.cls q.2 ∈ tables_1 ∧ Cond.privateMethod q.1 ∈ tables_1 ∧ Cond.instanceMethod q.1 ∈ tables_1
theorem lw_p0 : lw_okq (⟨"VersionRing", "mayKnow", "(II)Z"⟩, 16) := ⟨⟨by decide +kernel, by decide +kernel⟩, List.mem_of_getElem? (i := 11) (by decide +kernel), List.mem_of_getElem? (i := 209) (by decide +kernel), List.mem_of_getElem? (i := 210) (by decide +kernel)⟩
theorem lw_p1 : lw_okq (⟨"VersionRing", "aim", "(II)V"⟩, 16) := ⟨⟨by decide +kernel, by decide +kernel⟩, List.mem_of_getElem? (i := 11) (by decide +kernel), List.mem_of_getElem? (i := 220) (by decide +kernel), List.mem_of_getElem? (i := 221) (by decide +kernel)⟩
theorem lw_p2 : lw_okq (⟨"VersionRing$Ring", "isAmongFirst", "(II)Z"⟩, 5) := ⟨⟨by decide +kernel, by decide +kernel⟩, List.mem_of_getElem? (i := 22) (by decide +kernel), List.mem_of_getElem? (i := 228) (by decide +kernel), List.mem_of_getElem? (i := 229) (by decide +kernel)⟩
theorem lw_p3 : lw_okq (⟨"VersionRing", "reaches", "(II)Z"⟩, 16) := ⟨⟨by decide +kernel, by decide +kernel⟩, List.mem_of_getElem? (i := 11) (by decide +kernel), List.mem_of_getElem? (i := 233) (by decide +kernel), List.mem_of_getElem? (i := 234) (by decide +kernel)⟩
theorem lw_p4 : lw_okq (⟨"VersionRing$Log", "numberWritten", "(II)I"⟩, 5) := ⟨⟨by decide +kernel, by decide +kernel⟩, List.mem_of_getElem? (i := 53) (by decide +kernel), List.mem_of_getElem? (i := 246) (by decide +kernel), List.mem_of_getElem? (i := 247) (by decide +kernel)⟩
theorem lw_p5 : lw_okq (⟨"VersionRing", "sendToHomes", "(I)V"⟩, 16) := ⟨⟨by decide +kernel, by decide +kernel⟩, List.mem_of_getElem? (i := 11) (by decide +kernel), List.mem_of_getElem? (i := 250) (by decide +kernel), List.mem_of_getElem? (i := 251) (by decide +kernel)⟩
theorem lw_p6 : lw_okq (⟨"VersionRing$Node", "isPassed", "(I)Z"⟩, 4) := ⟨⟨by decide +kernel, by decide +kernel⟩, List.mem_of_getElem? (i := 82) (by decide +kernel), List.mem_of_getElem? (i := 258) (by decide +kernel), List.mem_of_getElem? (i := 259) (by decide +kernel)⟩
theorem lw_p7 : lw_okq (⟨"VersionRing$Node", "hasBeside", "(II)Z"⟩, 4) := ⟨⟨by decide +kernel, by decide +kernel⟩, List.mem_of_getElem? (i := 82) (by decide +kernel), List.mem_of_getElem? (i := 262) (by decide +kernel), List.mem_of_getElem? (i := 263) (by decide +kernel)⟩
theorem lw_p8 : lw_okq (⟨"VersionRing", "leaveHints", "(II)V"⟩, 16) := ⟨⟨by decide +kernel, by decide +kernel⟩, List.mem_of_getElem? (i := 11) (by decide +kernel), List.mem_of_getElem? (i := 274) (by decide +kernel), List.mem_of_getElem? (i := 275) (by decide +kernel)⟩
theorem lw_p9 : lw_okq (⟨"VersionRing", "lookAtTargets", "(I)V"⟩, 16) := ⟨⟨by decide +kernel, by decide +kernel⟩, List.mem_of_getElem? (i := 11) (by decide +kernel), List.mem_of_getElem? (i := 282) (by decide +kernel), List.mem_of_getElem? (i := 283) (by decide +kernel)⟩
theorem lw_p10 : lw_okq (⟨"VersionRing", "isAtSomeTarget", "(I)Z"⟩, 16) := ⟨⟨by decide +kernel, by decide +kernel⟩, List.mem_of_getElem? (i := 11) (by decide +kernel), List.mem_of_getElem? (i := 286) (by decide +kernel), List.mem_of_getElem? (i := 287) (by decide +kernel)⟩
theorem lw_p11 : lw_okq (⟨"VersionRing", "keepLatest", "()I"⟩, 16) := ⟨⟨by decide +kernel, by decide +kernel⟩, List.mem_of_getElem? (i := 11) (by decide +kernel), List.mem_of_getElem? (i := 294) (by decide +kernel), List.mem_of_getElem? (i := 295) (by decide +kernel)⟩
theorem lw_p12 : lw_okq (⟨"VersionRing", "isPassedBySeen", "(I)Z"⟩, 16) := ⟨⟨by decide +kernel, by decide +kernel⟩, List.mem_of_getElem? (i := 11) (by decide +kernel), List.mem_of_getElem? (i := 298) (by decide +kernel), List.mem_of_getElem? (i := 299) (by decide +kernel)⟩
theorem lw_p13 : lw_okq (⟨"VersionRing$Context", "rise", "(ILVersionRing$Log;)V"⟩, 2) := ⟨⟨by decide +kernel, by decide +kernel⟩, List.mem_of_getElem? (i := 107) (by decide +kernel), List.mem_of_getElem? (i := 308) (by decide +kernel), List.mem_of_getElem? (i := 309) (by decide +kernel)⟩
theorem lw_p14 : lw_okq (⟨"VersionRing", "handOverHints", "(I)I"⟩, 16) := ⟨⟨by decide +kernel, by decide +kernel⟩, List.mem_of_getElem? (i := 11) (by decide +kernel), List.mem_of_getElem? (i := 331) (by decide +kernel), List.mem_of_getElem? (i := 332) (by decide +kernel)⟩
theorem lw_p15 : lw_okq (⟨"VersionRing", "handOverKey", "(II)I"⟩, 16) := ⟨⟨by decide +kernel, by decide +kernel⟩, List.mem_of_getElem? (i := 11) (by decide +kernel), List.mem_of_getElem? (i := 335) (by decide +kernel), List.mem_of_getElem? (i := 336) (by decide +kernel)⟩
def lw_privs_1 : List (MethodName × Nat) := [(⟨"VersionRing", "mayKnow", "(II)Z"⟩, 16), (⟨"VersionRing", "aim", "(II)V"⟩, 16), (⟨"VersionRing$Ring", "isAmongFirst", "(II)Z"⟩, 5), (⟨"VersionRing", "reaches", "(II)Z"⟩, 16), (⟨"VersionRing$Log", "numberWritten", "(II)I"⟩, 5), (⟨"VersionRing", "sendToHomes", "(I)V"⟩, 16), (⟨"VersionRing$Node", "isPassed", "(I)Z"⟩, 4), (⟨"VersionRing$Node", "hasBeside", "(II)Z"⟩, 4), (⟨"VersionRing", "leaveHints", "(II)V"⟩, 16), (⟨"VersionRing", "lookAtTargets", "(I)V"⟩, 16), (⟨"VersionRing", "isAtSomeTarget", "(I)Z"⟩, 16), (⟨"VersionRing", "keepLatest", "()I"⟩, 16), (⟨"VersionRing", "isPassedBySeen", "(I)Z"⟩, 16), (⟨"VersionRing$Context", "rise", "(ILVersionRing$Log;)V"⟩, 2), (⟨"VersionRing", "handOverHints", "(I)I"⟩, 16), (⟨"VersionRing", "handOverKey", "(II)I"⟩, 16)]
theorem lw_r1 : ∀ q ∈ lw_privs_1, lw_okq q := List.forall_mem_cons.mpr ⟨lw_p0, List.forall_mem_cons.mpr ⟨lw_p1, List.forall_mem_cons.mpr ⟨lw_p2, List.forall_mem_cons.mpr ⟨lw_p3, List.forall_mem_cons.mpr ⟨lw_p4, List.forall_mem_cons.mpr ⟨lw_p5, List.forall_mem_cons.mpr ⟨lw_p6, List.forall_mem_cons.mpr ⟨lw_p7, List.forall_mem_cons.mpr ⟨lw_p8, List.forall_mem_cons.mpr ⟨lw_p9, List.forall_mem_cons.mpr ⟨lw_p10, List.forall_mem_cons.mpr ⟨lw_p11, List.forall_mem_cons.mpr ⟨lw_p12, List.forall_mem_cons.mpr ⟨lw_p13, List.forall_mem_cons.mpr ⟨lw_p14, List.forall_mem_cons.mpr ⟨lw_p15, fun _ h => absurd h List.not_mem_nil⟩⟩⟩⟩⟩⟩⟩⟩⟩⟩⟩⟩⟩⟩⟩⟩
theorem lw_p16 : lw_okq (⟨"VersionRing", "reachesAllHomes", "(I)Z"⟩, 16) := ⟨⟨by decide +kernel, by decide +kernel⟩, List.mem_of_getElem? (i := 11) (by decide +kernel), List.mem_of_getElem? (i := 347) (by decide +kernel), List.mem_of_getElem? (i := 348) (by decide +kernel)⟩
theorem lw_p17 : lw_okq (⟨"VersionRing", "share", "(III)Z"⟩, 16) := ⟨⟨by decide +kernel, by decide +kernel⟩, List.mem_of_getElem? (i := 11) (by decide +kernel), List.mem_of_getElem? (i := 359) (by decide +kernel), List.mem_of_getElem? (i := 360) (by decide +kernel)⟩
theorem lw_p18 : lw_okq (⟨"VersionRing", "differ", "(III)Z"⟩, 16) := ⟨⟨by decide +kernel, by decide +kernel⟩, List.mem_of_getElem? (i := 11) (by decide +kernel), List.mem_of_getElem? (i := 363) (by decide +kernel), List.mem_of_getElem? (i := 364) (by decide +kernel)⟩
theorem lw_p19 : lw_okq (⟨"VersionRing", "exchange", "(III)V"⟩, 16) := ⟨⟨by decide +kernel, by decide +kernel⟩, List.mem_of_getElem? (i := 11) (by decide +kernel), List.mem_of_getElem? (i := 367) (by decide +kernel), List.mem_of_getElem? (i := 368) (by decide +kernel)⟩
theorem lw_p20 : lw_okq (⟨"VersionRing", "countComparedParts", "()I"⟩, 16) := ⟨⟨by decide +kernel, by decide +kernel⟩, List.mem_of_getElem? (i := 11) (by decide +kernel), List.mem_of_getElem? (i := 371) (by decide +kernel), List.mem_of_getElem? (i := 372) (by decide +kernel)⟩
theorem lw_p21 : lw_okq (⟨"VersionRingModel", "list", "(I)V"⟩, 24) := ⟨⟨by decide +kernel, by decide +kernel⟩, List.mem_of_getElem? (i := 415) (by decide +kernel), List.mem_of_getElem? (i := 520) (by decide +kernel), List.mem_of_getElem? (i := 521) (by decide +kernel)⟩
theorem lw_p22 : lw_okq (⟨"VersionRingModel", "placeIn", "(I)I"⟩, 24) := ⟨⟨by decide +kernel, by decide +kernel⟩, List.mem_of_getElem? (i := 415) (by decide +kernel), List.mem_of_getElem? (i := 524) (by decide +kernel), List.mem_of_getElem? (i := 525) (by decide +kernel)⟩
theorem lw_p23 : lw_okq (⟨"VersionRingModel", "homes", "()I"⟩, 24) := ⟨⟨by decide +kernel, by decide +kernel⟩, List.mem_of_getElem? (i := 415) (by decide +kernel), List.mem_of_getElem? (i := 528) (by decide +kernel), List.mem_of_getElem? (i := 529) (by decide +kernel)⟩
theorem lw_p24 : lw_okq (⟨"VersionRingModel", "aim", "(II)V"⟩, 24) := ⟨⟨by decide +kernel, by decide +kernel⟩, List.mem_of_getElem? (i := 415) (by decide +kernel), List.mem_of_getElem? (i := 536) (by decide +kernel), List.mem_of_getElem? (i := 537) (by decide +kernel)⟩
theorem lw_p25 : lw_okq (⟨"VersionRingModel", "reaches", "(II)Z"⟩, 24) := ⟨⟨by decide +kernel, by decide +kernel⟩, List.mem_of_getElem? (i := 415) (by decide +kernel), List.mem_of_getElem? (i := 540) (by decide +kernel), List.mem_of_getElem? (i := 541) (by decide +kernel)⟩
theorem lw_p26 : lw_okq (⟨"VersionRingModel", "standsFor", "(II)I"⟩, 24) := ⟨⟨by decide +kernel, by decide +kernel⟩, List.mem_of_getElem? (i := 415) (by decide +kernel), List.mem_of_getElem? (i := 548) (by decide +kernel), List.mem_of_getElem? (i := 549) (by decide +kernel)⟩
theorem lw_p27 : lw_okq (⟨"VersionRingModel", "take", "(II)V"⟩, 24) := ⟨⟨by decide +kernel, by decide +kernel⟩, List.mem_of_getElem? (i := 415) (by decide +kernel), List.mem_of_getElem? (i := 552) (by decide +kernel), List.mem_of_getElem? (i := 553) (by decide +kernel)⟩
theorem lw_p28 : lw_okq (⟨"VersionRingModel", "below", "(II)Z"⟩, 24) := ⟨⟨by decide +kernel, by decide +kernel⟩, List.mem_of_getElem? (i := 415) (by decide +kernel), List.mem_of_getElem? (i := 556) (by decide +kernel), List.mem_of_getElem? (i := 557) (by decide +kernel)⟩
theorem lw_p29 : lw_okq (⟨"VersionRingModel", "isFound", "(II)Z"⟩, 24) := ⟨⟨by decide +kernel, by decide +kernel⟩, List.mem_of_getElem? (i := 415) (by decide +kernel), List.mem_of_getElem? (i := 564) (by decide +kernel), List.mem_of_getElem? (i := 565) (by decide +kernel)⟩
theorem lw_p30 : lw_okq (⟨"VersionRingModel", "shown", "(I)Z"⟩, 24) := ⟨⟨by decide +kernel, by decide +kernel⟩, List.mem_of_getElem? (i := 415) (by decide +kernel), List.mem_of_getElem? (i := 568) (by decide +kernel), List.mem_of_getElem? (i := 569) (by decide +kernel)⟩
theorem lw_p31 : lw_okq (⟨"VersionRingModel", "repair", "()V"⟩, 24) := ⟨⟨by decide +kernel, by decide +kernel⟩, List.mem_of_getElem? (i := 415) (by decide +kernel), List.mem_of_getElem? (i := 572) (by decide +kernel), List.mem_of_getElem? (i := 573) (by decide +kernel)⟩
def lw_privs_2 : List (MethodName × Nat) := [(⟨"VersionRing", "reachesAllHomes", "(I)Z"⟩, 16), (⟨"VersionRing", "share", "(III)Z"⟩, 16), (⟨"VersionRing", "differ", "(III)Z"⟩, 16), (⟨"VersionRing", "exchange", "(III)V"⟩, 16), (⟨"VersionRing", "countComparedParts", "()I"⟩, 16), (⟨"VersionRingModel", "list", "(I)V"⟩, 24), (⟨"VersionRingModel", "placeIn", "(I)I"⟩, 24), (⟨"VersionRingModel", "homes", "()I"⟩, 24), (⟨"VersionRingModel", "aim", "(II)V"⟩, 24), (⟨"VersionRingModel", "reaches", "(II)Z"⟩, 24), (⟨"VersionRingModel", "standsFor", "(II)I"⟩, 24), (⟨"VersionRingModel", "take", "(II)V"⟩, 24), (⟨"VersionRingModel", "below", "(II)Z"⟩, 24), (⟨"VersionRingModel", "isFound", "(II)Z"⟩, 24), (⟨"VersionRingModel", "shown", "(I)Z"⟩, 24), (⟨"VersionRingModel", "repair", "()V"⟩, 24)]
theorem lw_r2 : ∀ q ∈ lw_privs_2, lw_okq q := List.forall_mem_cons.mpr ⟨lw_p16, List.forall_mem_cons.mpr ⟨lw_p17, List.forall_mem_cons.mpr ⟨lw_p18, List.forall_mem_cons.mpr ⟨lw_p19, List.forall_mem_cons.mpr ⟨lw_p20, List.forall_mem_cons.mpr ⟨lw_p21, List.forall_mem_cons.mpr ⟨lw_p22, List.forall_mem_cons.mpr ⟨lw_p23, List.forall_mem_cons.mpr ⟨lw_p24, List.forall_mem_cons.mpr ⟨lw_p25, List.forall_mem_cons.mpr ⟨lw_p26, List.forall_mem_cons.mpr ⟨lw_p27, List.forall_mem_cons.mpr ⟨lw_p28, List.forall_mem_cons.mpr ⟨lw_p29, List.forall_mem_cons.mpr ⟨lw_p30, List.forall_mem_cons.mpr ⟨lw_p31, fun _ h => absurd h List.not_mem_nil⟩⟩⟩⟩⟩⟩⟩⟩⟩⟩⟩⟩⟩⟩⟩⟩
theorem lw_p32 : lw_okq (⟨"VersionRingModel", "moved", "(II)I"⟩, 24) := ⟨⟨by decide +kernel, by decide +kernel⟩, List.mem_of_getElem? (i := 415) (by decide +kernel), List.mem_of_getElem? (i := 588) (by decide +kernel), List.mem_of_getElem? (i := 589) (by decide +kernel)⟩
theorem lw_p33 : lw_okq (⟨"VersionRingModel", "isHome", "(II)Z"⟩, 24) := ⟨⟨by decide +kernel, by decide +kernel⟩, List.mem_of_getElem? (i := 415) (by decide +kernel), List.mem_of_getElem? (i := 596) (by decide +kernel), List.mem_of_getElem? (i := 597) (by decide +kernel)⟩
theorem lw_p34 : lw_okq (⟨"VersionRingModel", "differ", "(III)Z"⟩, 24) := ⟨⟨by decide +kernel, by decide +kernel⟩, List.mem_of_getElem? (i := 415) (by decide +kernel), List.mem_of_getElem? (i := 604) (by decide +kernel), List.mem_of_getElem? (i := 605) (by decide +kernel)⟩
theorem lw_p35 : lw_okq (⟨"VersionRingModel", "exchange", "(III)V"⟩, 24) := ⟨⟨by decide +kernel, by decide +kernel⟩, List.mem_of_getElem? (i := 415) (by decide +kernel), List.mem_of_getElem? (i := 608) (by decide +kernel), List.mem_of_getElem? (i := 609) (by decide +kernel)⟩
def lw_privs_3 : List (MethodName × Nat) := [(⟨"VersionRingModel", "moved", "(II)I"⟩, 24), (⟨"VersionRingModel", "isHome", "(II)Z"⟩, 24), (⟨"VersionRingModel", "differ", "(III)Z"⟩, 24), (⟨"VersionRingModel", "exchange", "(III)V"⟩, 24)]
theorem lw_r3 : ∀ q ∈ lw_privs_3, lw_okq q := List.forall_mem_cons.mpr ⟨lw_p32, List.forall_mem_cons.mpr ⟨lw_p33, List.forall_mem_cons.mpr ⟨lw_p34, List.forall_mem_cons.mpr ⟨lw_p35, fun _ h => absurd h List.not_mem_nil⟩⟩⟩⟩
def lw_privs : List (MethodName × Nat) := lw_privs_1 ++ (lw_privs_2 ++ (lw_privs_3))
def lw_tbl : List Cond := k2_sels lw_privs ++ tables_1
theorem lw_privs_ok : ∀ q ∈ lw_privs, lw_okq q := by
  show ∀ q ∈ lw_privs_1 ++ (lw_privs_2 ++ (lw_privs_3)), lw_okq q
  exact List.forall_mem_append.mpr ⟨lw_r1, List.forall_mem_append.mpr ⟨lw_r2, lw_r3⟩⟩
end
section
/-! Names, field tables, codes: by program (wip/whole/gen/names.py) out of the listing and the Statement. -/
def R_V : String := "VersionRing"
def T_V : u_T := fun k => match k with
  | 0 => ("VersionRing", "ring", "LVersionRing$Ring;", true)
  | 1 => ("VersionRing", "log", "LVersionRing$Log;", true)
  | 2 => ("VersionRing", "nodes", "[LVersionRing$Node;", true)
  | 3 => ("VersionRing", "cuts", "[Z", true)
  | 4 => ("VersionRing", "contexts", "[LVersionRing$Context;", true)
  | 5 => ("VersionRing", "readers", "I", true)
  | 6 => ("VersionRing", "writers", "I", true)
  | 7 => ("VersionRing", "latest", "[Z", true)
  | 8 => ("VersionRing", "repairs", "I", false)
  | 9 => ("VersionRing", "aims", "[I", true)
  | 10 => ("VersionRing", "aimed", "I", false)
  | 11 => ("VersionRing", "aimedHomes", "I", false)
  | 12 => ("VersionRing", "seen", "[Z", true)
  | 13 => ("VersionRing", "ones", "[Z", true)
  | 14 => ("VersionRing", "others", "[Z", true)
  | _ => ("VersionRing", "differs", "[Z", true)
def ty_V : Nat → FieldType := fun k => match k with
  | 0 => .object "VersionRing$Ring"
  | 1 => .object "VersionRing$Log"
  | 2 => .array (.object "VersionRing$Node")
  | 3 => .array .boolean
  | 4 => .array (.object "VersionRing$Context")
  | 5 => .int
  | 6 => .int
  | 7 => .array .boolean
  | 8 => .int
  | 9 => .array .int
  | 10 => .int
  | 11 => .int
  | 12 => .array .boolean
  | 13 => .array .boolean
  | 14 => .array .boolean
  | _ => .array .boolean
def R_R : String := "VersionRing$Ring"
def T_R : u_T := fun k => match k with
  | 0 => ("VersionRing$Ring", "most", "I", true)
  | 1 => ("VersionRing$Ring", "owners", "[I", true)
  | 2 => ("VersionRing$Ring", "list", "[I", true)
  | 3 => ("VersionRing$Ring", "listed", "I", false)
  | _ => ("VersionRing$Ring", "homes", "I", false)
def ty_R : Nat → FieldType := fun k => match k with
  | 0 => .int
  | 1 => .array .int
  | 2 => .array .int
  | 3 => .int
  | _ => .int
def R_G : String := "VersionRing$Log"
def T_G : u_T := fun k => match k with
  | 0 => ("VersionRing$Log", "keys", "[I", true)
  | 1 => ("VersionRing$Log", "values", "[I", true)
  | 2 => ("VersionRing$Log", "authors", "[I", true)
  | 3 => ("VersionRing$Log", "clocks", "[I", true)
  | _ => ("VersionRing$Log", "made", "I", false)
def ty_G : Nat → FieldType := fun k => match k with
  | 0 => .array .int
  | 1 => .array .int
  | 2 => .array .int
  | 3 => .array .int
  | _ => .int
def R_N : String := "VersionRing$Node"
def T_N : u_T := fun k => match k with
  | 0 => ("VersionRing$Node", "log", "LVersionRing$Log;", true)
  | 1 => ("VersionRing$Node", "has", "[Z", true)
  | 2 => ("VersionRing$Node", "hintFor", "[I", true)
  | _ => ("VersionRing$Node", "up", "Z", false)
def ty_N : Nat → FieldType := fun k => match k with
  | 0 => .object "VersionRing$Log"
  | 1 => .array .boolean
  | 2 => .array .int
  | _ => .boolean
def R_C : String := "VersionRing$Context"
def T_C : u_T := fun k => match k with
  | 0 => ("VersionRing$Context", "clock", "[I", true)
  | _ => ("VersionRing$Context", "key", "I", false)
def ty_C : Nat → FieldType := fun k => match k with
  | 0 => .array .int
  | _ => .int
def R_M : String := "VersionRingModel"
def T_M : u_T := fun k => match k with
  | 0 => ("VersionRingModel", "homesWanted", "I", true)
  | 1 => ("VersionRingModel", "readers", "I", true)
  | 2 => ("VersionRingModel", "writers", "I", true)
  | 3 => ("VersionRingModel", "down", "[Z", true)
  | 4 => ("VersionRingModel", "severed", "[Z", true)
  | 5 => ("VersionRingModel", "ring", "[I", true)
  | 6 => ("VersionRingModel", "made", "I", false)
  | 7 => ("VersionRingModel", "keyOf", "[I", true)
  | 8 => ("VersionRingModel", "valueOf", "[I", true)
  | 9 => ("VersionRingModel", "writer", "[I", true)
  | 10 => ("VersionRingModel", "clock", "[I", true)
  | 11 => ("VersionRingModel", "has", "[Z", true)
  | 12 => ("VersionRingModel", "hint", "[I", true)
  | 13 => ("VersionRingModel", "before", "[Z", true)
  | 14 => ("VersionRingModel", "contextKey", "[I", true)
  | 15 => ("VersionRingModel", "contextSet", "[Z", true)
  | 16 => ("VersionRingModel", "contextClock", "[I", true)
  | 17 => ("VersionRingModel", "lately", "[I", true)
  | 18 => ("VersionRingModel", "founds", "I", false)
  | 19 => ("VersionRingModel", "repairs", "I", false)
  | 20 => ("VersionRingModel", "row", "[I", true)
  | 21 => ("VersionRingModel", "rowSize", "I", false)
  | 22 => ("VersionRingModel", "aims", "[I", true)
  | _ => ("VersionRingModel", "aimCount", "I", false)
def ty_M : Nat → FieldType := fun k => match k with
  | 0 => .int
  | 1 => .int
  | 2 => .int
  | 3 => .array .boolean
  | 4 => .array .boolean
  | 5 => .array .int
  | 6 => .int
  | 7 => .array .int
  | 8 => .array .int
  | 9 => .array .int
  | 10 => .array .int
  | 11 => .array .boolean
  | 12 => .array .int
  | 13 => .array .boolean
  | 14 => .array .int
  | 15 => .array .boolean
  | 16 => .array .int
  | 17 => .array .int
  | 18 => .int
  | 19 => .int
  | 20 => .array .int
  | 21 => .int
  | 22 => .array .int
  | _ => .int
def R_L : String := "VersionRingLaw"
def R_J : String := "java/util/Arrays"
abbrev vwCl : List vw_C := [(R_V, T_V, 16), (R_R, T_R, 5), (R_G, T_G, 5), (R_N, T_N, 4), (R_C, T_C, 2), (R_M, T_M, 24)]
abbrev b_C_init : ByteArray := prog_2_method_1_code
def y_C_init : MethodName := ⟨R_C, "<init>", "()V"⟩
abbrev b_C_isEmpty : ByteArray := prog_2_method_2_code
def y_C_isEmpty : MethodName := ⟨R_C, "isEmpty", "()Z"⟩
abbrev b_C_learn : ByteArray := prog_2_method_3_code
def y_C_learn : MethodName := ⟨R_C, "learn", "(I[ZLVersionRing$Log;)V"⟩
abbrev b_C_rise : ByteArray := prog_2_method_4_code
def y_C_rise : MethodName := ⟨R_C, "rise", "(ILVersionRing$Log;)V"⟩
abbrev b_G_init : ByteArray := prog_3_method_1_code
def y_G_init : MethodName := ⟨R_G, "<init>", "()V"⟩
abbrev b_G_isMade : ByteArray := prog_3_method_2_code
def y_G_isMade : MethodName := ⟨R_G, "isMade", "(I)Z"⟩
abbrev b_G_clockCount : ByteArray := prog_3_method_3_code
def y_G_clockCount : MethodName := ⟨R_G, "clockCount", "(II)I"⟩
abbrev b_G_add : ByteArray := prog_3_method_4_code
def y_G_add : MethodName := ⟨R_G, "add", "(III[I)I"⟩
abbrev b_G_numberWritten : ByteArray := prog_3_method_5_code
def y_G_numberWritten : MethodName := ⟨R_G, "numberWritten", "(II)I"⟩
abbrev b_G_isAtOrBelow : ByteArray := prog_3_method_6_code
def y_G_isAtOrBelow : MethodName := ⟨R_G, "isAtOrBelow", "(II)Z"⟩
abbrev b_N_init : ByteArray := prog_4_method_1_code
def y_N_init : MethodName := ⟨R_N, "<init>", "(LVersionRing$Log;)V"⟩
abbrev b_N_hasHintOf : ByteArray := prog_4_method_2_code
def y_N_hasHintOf : MethodName := ⟨R_N, "hasHintOf", "(I)Z"⟩
abbrev b_N_take : ByteArray := prog_4_method_3_code
def y_N_take : MethodName := ⟨R_N, "take", "(I)Z"⟩
abbrev b_N_isPassed : ByteArray := prog_4_method_4_code
def y_N_isPassed : MethodName := ⟨R_N, "isPassed", "(I)Z"⟩
abbrev b_N_hasBeside : ByteArray := prog_4_method_5_code
def y_N_hasBeside : MethodName := ⟨R_N, "hasBeside", "(II)Z"⟩
abbrev b_N_takeAll : ByteArray := prog_4_method_6_code
def y_N_takeAll : MethodName := ⟨R_N, "takeAll", "([Z)I"⟩
abbrev b_N_dropAll : ByteArray := prog_4_method_7_code
def y_N_dropAll : MethodName := ⟨R_N, "dropAll", "([Z)V"⟩
abbrev b_N_writeOut : ByteArray := prog_4_method_8_code
def y_N_writeOut : MethodName := ⟨R_N, "writeOut", "(I[Z)I"⟩
abbrev b_R_init : ByteArray := prog_5_method_1_code
def y_R_init : MethodName := ⟨R_R, "<init>", "(I)V"⟩
abbrev b_R_lookUp : ByteArray := prog_5_method_2_code
def y_R_lookUp : MethodName := ⟨R_R, "lookUp", "(I)V"⟩
abbrev b_R_hasHome : ByteArray := prog_5_method_3_code
def y_R_hasHome : MethodName := ⟨R_R, "hasHome", "(I)Z"⟩
abbrev b_R_isAmongFirst : ByteArray := prog_5_method_4_code
def y_R_isAmongFirst : MethodName := ⟨R_R, "isAmongFirst", "(II)Z"⟩
abbrev b_V_init : ByteArray := prog_1_method_1_code
def y_V_init : MethodName := ⟨R_V, "<init>", "(III)V"⟩
abbrev b_V_token : ByteArray := prog_1_method_2_code
def y_V_token : MethodName := ⟨R_V, "token", "(II)Z"⟩
abbrev b_V_remove : ByteArray := prog_1_method_3_code
def y_V_remove : MethodName := ⟨R_V, "remove", "(I)Z"⟩
abbrev b_V_power : ByteArray := prog_1_method_4_code
def y_V_power : MethodName := ⟨R_V, "power", "(IZ)Z"⟩
abbrev b_V_cut : ByteArray := prog_1_method_5_code
def y_V_cut : MethodName := ⟨R_V, "cut", "(IIZ)Z"⟩
abbrev b_V_put : ByteArray := prog_1_method_6_code
def y_V_put : MethodName := ⟨R_V, "put", "(IIII)I"⟩
abbrev b_V_get : ByteArray := prog_1_method_7_code
def y_V_get : MethodName := ⟨R_V, "get", "(III)I"⟩
abbrev b_V_found : ByteArray := prog_1_method_8_code
def y_V_found : MethodName := ⟨R_V, "found", "(I)I"⟩
abbrev b_V_repaired : ByteArray := prog_1_method_9_code
def y_V_repaired : MethodName := ⟨R_V, "repaired", "()I"⟩
abbrev b_V_handOver : ByteArray := prog_1_method_10_code
def y_V_handOver : MethodName := ⟨R_V, "handOver", "(I)I"⟩
abbrev b_V_compare : ByteArray := prog_1_method_11_code
def y_V_compare : MethodName := ⟨R_V, "compare", "(II)I"⟩
abbrev b_V_home : ByteArray := prog_1_method_12_code
def y_V_home : MethodName := ⟨R_V, "home", "(II)I"⟩
abbrev b_V_targets : ByteArray := prog_1_method_13_code
def y_V_targets : MethodName := ⟨R_V, "targets", "(II)I"⟩
abbrev b_V_holds : ByteArray := prog_1_method_14_code
def y_V_holds : MethodName := ⟨R_V, "holds", "(II)I"⟩
abbrev b_V_count : ByteArray := prog_1_method_15_code
def y_V_count : MethodName := ⟨R_V, "count", "(II)I"⟩
abbrev b_V_hints : ByteArray := prog_1_method_16_code
def y_V_hints : MethodName := ⟨R_V, "hints", "(I)I"⟩
abbrev b_V_versions : ByteArray := prog_1_method_17_code
def y_V_versions : MethodName := ⟨R_V, "versions", "()I"⟩
abbrev b_V_version : ByteArray := prog_1_method_18_code
def y_V_version : MethodName := ⟨R_V, "version", "(II)I"⟩
abbrev b_V_context : ByteArray := prog_1_method_19_code
def y_V_context : MethodName := ⟨R_V, "context", "(II)I"⟩
abbrev b_V_isNode : ByteArray := prog_1_method_20_code
def y_V_isNode : MethodName := ⟨R_V, "isNode", "(I)Z"⟩
abbrev b_V_areTwoNodes : ByteArray := prog_1_method_21_code
def y_V_areTwoNodes : MethodName := ⟨R_V, "areTwoNodes", "(II)Z"⟩
abbrev b_V_isPosition : ByteArray := prog_1_method_22_code
def y_V_isPosition : MethodName := ⟨R_V, "isPosition", "(I)Z"⟩
abbrev b_V_isKey : ByteArray := prog_1_method_23_code
def y_V_isKey : MethodName := ⟨R_V, "isKey", "(I)Z"⟩
abbrev b_V_isContext : ByteArray := prog_1_method_24_code
def y_V_isContext : MethodName := ⟨R_V, "isContext", "(I)Z"⟩
abbrev b_V_mayKnow : ByteArray := prog_1_method_25_code
def y_V_mayKnow : MethodName := ⟨R_V, "mayKnow", "(II)Z"⟩
abbrev b_V_line : ByteArray := prog_1_method_26_code
def y_V_line : MethodName := ⟨R_V, "line", "(II)I"⟩
abbrev b_V_reaches : ByteArray := prog_1_method_27_code
def y_V_reaches : MethodName := ⟨R_V, "reaches", "(II)Z"⟩
abbrev b_V_aim : ByteArray := prog_1_method_28_code
def y_V_aim : MethodName := ⟨R_V, "aim", "(II)V"⟩
abbrev b_V_sendToHomes : ByteArray := prog_1_method_29_code
def y_V_sendToHomes : MethodName := ⟨R_V, "sendToHomes", "(I)V"⟩
abbrev b_V_leaveHints : ByteArray := prog_1_method_30_code
def y_V_leaveHints : MethodName := ⟨R_V, "leaveHints", "(II)V"⟩
abbrev b_V_lookAtTargets : ByteArray := prog_1_method_31_code
def y_V_lookAtTargets : MethodName := ⟨R_V, "lookAtTargets", "(I)V"⟩
abbrev b_V_isAtSomeTarget : ByteArray := prog_1_method_32_code
def y_V_isAtSomeTarget : MethodName := ⟨R_V, "isAtSomeTarget", "(I)Z"⟩
abbrev b_V_keepLatest : ByteArray := prog_1_method_33_code
def y_V_keepLatest : MethodName := ⟨R_V, "keepLatest", "()I"⟩
abbrev b_V_isPassedBySeen : ByteArray := prog_1_method_34_code
def y_V_isPassedBySeen : MethodName := ⟨R_V, "isPassedBySeen", "(I)Z"⟩
abbrev b_V_handOverHints : ByteArray := prog_1_method_35_code
def y_V_handOverHints : MethodName := ⟨R_V, "handOverHints", "(I)I"⟩
abbrev b_V_handOverKey : ByteArray := prog_1_method_36_code
def y_V_handOverKey : MethodName := ⟨R_V, "handOverKey", "(II)I"⟩
abbrev b_V_reachesAllHomes : ByteArray := prog_1_method_37_code
def y_V_reachesAllHomes : MethodName := ⟨R_V, "reachesAllHomes", "(I)Z"⟩
abbrev b_V_share : ByteArray := prog_1_method_38_code
def y_V_share : MethodName := ⟨R_V, "share", "(III)Z"⟩
abbrev b_V_differ : ByteArray := prog_1_method_39_code
def y_V_differ : MethodName := ⟨R_V, "differ", "(III)Z"⟩
abbrev b_V_exchange : ByteArray := prog_1_method_40_code
def y_V_exchange : MethodName := ⟨R_V, "exchange", "(III)V"⟩
abbrev b_V_countComparedParts : ByteArray := prog_1_method_41_code
def y_V_countComparedParts : MethodName := ⟨R_V, "countComparedParts", "()I"⟩
abbrev b_L_cell : ByteArray := method_2_code
def y_L_cell : MethodName := ⟨R_L, "cell", "([II)I"⟩
abbrev b_L_law : ByteArray := code
def y_L_law : MethodName := ⟨R_L, "law", "([I)Z"⟩
abbrev b_M_init : ByteArray := prog_7_method_1_code
def y_M_init : MethodName := ⟨R_M, "<init>", "(III)V"⟩
abbrev b_M_isNode : ByteArray := prog_7_method_2_code
def y_M_isNode : MethodName := ⟨R_M, "isNode", "(I)Z"⟩
abbrev b_M_isKey : ByteArray := prog_7_method_3_code
def y_M_isKey : MethodName := ⟨R_M, "isKey", "(I)Z"⟩
abbrev b_M_reaches : ByteArray := prog_7_method_4_code
def y_M_reaches : MethodName := ⟨R_M, "reaches", "(II)Z"⟩
abbrev b_M_token : ByteArray := prog_7_method_5_code
def y_M_token : MethodName := ⟨R_M, "token", "(II)Z"⟩
abbrev b_M_remove : ByteArray := prog_7_method_6_code
def y_M_remove : MethodName := ⟨R_M, "remove", "(I)Z"⟩
abbrev b_M_power : ByteArray := prog_7_method_7_code
def y_M_power : MethodName := ⟨R_M, "power", "(IZ)Z"⟩
abbrev b_M_cut : ByteArray := prog_7_method_8_code
def y_M_cut : MethodName := ⟨R_M, "cut", "(IIZ)Z"⟩
abbrev b_M_placeIn : ByteArray := prog_7_method_9_code
def y_M_placeIn : MethodName := ⟨R_M, "placeIn", "(I)I"⟩
abbrev b_M_list : ByteArray := prog_7_method_10_code
def y_M_list : MethodName := ⟨R_M, "list", "(I)V"⟩
abbrev b_M_homes : ByteArray := prog_7_method_11_code
def y_M_homes : MethodName := ⟨R_M, "homes", "()I"⟩
abbrev b_M_isHome : ByteArray := prog_7_method_12_code
def y_M_isHome : MethodName := ⟨R_M, "isHome", "(II)Z"⟩
abbrev b_M_home : ByteArray := prog_7_method_13_code
def y_M_home : MethodName := ⟨R_M, "home", "(II)I"⟩
abbrev b_M_aim : ByteArray := prog_7_method_14_code
def y_M_aim : MethodName := ⟨R_M, "aim", "(II)V"⟩
abbrev b_M_targets : ByteArray := prog_7_method_15_code
def y_M_targets : MethodName := ⟨R_M, "targets", "(II)I"⟩
abbrev b_M_standsFor : ByteArray := prog_7_method_16_code
def y_M_standsFor : MethodName := ⟨R_M, "standsFor", "(II)I"⟩
abbrev b_M_below : ByteArray := prog_7_method_17_code
def y_M_below : MethodName := ⟨R_M, "below", "(II)Z"⟩
abbrev b_M_take : ByteArray := prog_7_method_18_code
def y_M_take : MethodName := ⟨R_M, "take", "(II)V"⟩
abbrev b_M_put : ByteArray := prog_7_method_19_code
def y_M_put : MethodName := ⟨R_M, "put", "(IIII)I"⟩
abbrev b_M_shown : ByteArray := prog_7_method_20_code
def y_M_shown : MethodName := ⟨R_M, "shown", "(I)Z"⟩
abbrev b_M_isFound : ByteArray := prog_7_method_21_code
def y_M_isFound : MethodName := ⟨R_M, "isFound", "(II)Z"⟩
abbrev b_M_get : ByteArray := prog_7_method_22_code
def y_M_get : MethodName := ⟨R_M, "get", "(III)I"⟩
abbrev b_M_repair : ByteArray := prog_7_method_23_code
def y_M_repair : MethodName := ⟨R_M, "repair", "()V"⟩
abbrev b_M_found : ByteArray := prog_7_method_24_code
def y_M_found : MethodName := ⟨R_M, "found", "(I)I"⟩
abbrev b_M_repaired : ByteArray := prog_7_method_25_code
def y_M_repaired : MethodName := ⟨R_M, "repaired", "()I"⟩
abbrev b_M_handOver : ByteArray := prog_7_method_26_code
def y_M_handOver : MethodName := ⟨R_M, "handOver", "(I)I"⟩
abbrev b_M_moved : ByteArray := prog_7_method_27_code
def y_M_moved : MethodName := ⟨R_M, "moved", "(II)I"⟩
abbrev b_M_differ : ByteArray := prog_7_method_28_code
def y_M_differ : MethodName := ⟨R_M, "differ", "(III)Z"⟩
abbrev b_M_exchange : ByteArray := prog_7_method_29_code
def y_M_exchange : MethodName := ⟨R_M, "exchange", "(III)V"⟩
abbrev b_M_compare : ByteArray := prog_7_method_30_code
def y_M_compare : MethodName := ⟨R_M, "compare", "(II)I"⟩
abbrev b_M_holds : ByteArray := prog_7_method_31_code
def y_M_holds : MethodName := ⟨R_M, "holds", "(II)I"⟩
abbrev b_M_count : ByteArray := prog_7_method_32_code
def y_M_count : MethodName := ⟨R_M, "count", "(II)I"⟩
abbrev b_M_hints : ByteArray := prog_7_method_33_code
def y_M_hints : MethodName := ⟨R_M, "hints", "(I)I"⟩
abbrev b_M_versions : ByteArray := prog_7_method_34_code
def y_M_versions : MethodName := ⟨R_M, "versions", "()I"⟩
abbrev b_M_version : ByteArray := prog_7_method_35_code
def y_M_version : MethodName := ⟨R_M, "version", "(II)I"⟩
abbrev b_M_context : ByteArray := prog_7_method_36_code
def y_M_context : MethodName := ⟨R_M, "context", "(II)I"⟩
abbrev b_J_fill : ByteArray := prog_10_method_103_code
def y_J_fill : MethodName := ⟨R_J, "fill", "([II)V"⟩
end
section
theorem d_J_fill_0 : decode b_J_fill 0 = .ok (.iconst 0, 1) := by decide +kernel
theorem d_J_fill_1 : decode b_J_fill 1 = .ok (.istore_n 2, 1) := by decide +kernel
theorem d_J_fill_2 : decode b_J_fill 2 = .ok (.aload_n 0, 1) := by decide +kernel
theorem d_J_fill_3 : decode b_J_fill 3 = .ok (.arraylength, 1) := by decide +kernel
theorem d_J_fill_4 : decode b_J_fill 4 = .ok (.istore_n 3, 1) := by decide +kernel
theorem d_J_fill_5 : decode b_J_fill 5 = .ok (.iload_n 2, 1) := by decide +kernel
theorem d_J_fill_6 : decode b_J_fill 6 = .ok (.iload_n 3, 1) := by decide +kernel
theorem d_J_fill_7 : decode b_J_fill 7 = .ok (.if_icmp .ge 13, 3) := by decide +kernel
theorem d_J_fill_10 : decode b_J_fill 10 = .ok (.aload_n 0, 1) := by decide +kernel
theorem d_J_fill_11 : decode b_J_fill 11 = .ok (.iload_n 2, 1) := by decide +kernel
theorem d_J_fill_12 : decode b_J_fill 12 = .ok (.iload_n 1, 1) := by decide +kernel
theorem d_J_fill_13 : decode b_J_fill 13 = .ok (.iastore, 1) := by decide +kernel
theorem d_J_fill_14 : decode b_J_fill 14 = .ok (.iinc 2 1, 3) := by decide +kernel
theorem d_J_fill_17 : decode b_J_fill 17 = .ok (.goto (-12), 3) := by decide +kernel
theorem d_J_fill_20 : decode b_J_fill 20 = .ok (.return_, 1) := by decide +kernel
theorem d_R_init_0 : decode b_R_init 0 = .ok (.aload_n 0, 1) := by decide +kernel
theorem d_R_init_1 : decode b_R_init 1 = .ok (.invokespecial 3, 3) := by decide +kernel
theorem d_R_init_4 : decode b_R_init 4 = .ok (.aload_n 0, 1) := by decide +kernel
theorem d_R_init_5 : decode b_R_init 5 = .ok (.iload_n 1, 1) := by decide +kernel
theorem d_R_init_6 : decode b_R_init 6 = .ok (.putfield 9, 3) := by decide +kernel
theorem d_R_init_9 : decode b_R_init 9 = .ok (.aload_n 0, 1) := by decide +kernel
theorem d_R_init_10 : decode b_R_init 10 = .ok (.bipush 16, 2) := by decide +kernel
theorem d_R_init_12 : decode b_R_init 12 = .ok (.newarray .int, 2) := by decide +kernel
theorem d_R_init_14 : decode b_R_init 14 = .ok (.putfield 15, 3) := by decide +kernel
theorem d_R_init_17 : decode b_R_init 17 = .ok (.aload_n 0, 1) := by decide +kernel
theorem d_R_init_18 : decode b_R_init 18 = .ok (.getfield 15, 3) := by decide +kernel
theorem d_R_init_21 : decode b_R_init 21 = .ok (.iconst (-1), 1) := by decide +kernel
theorem d_R_init_22 : decode b_R_init 22 = .ok (.invokestatic 19, 3) := by decide +kernel
theorem d_R_init_25 : decode b_R_init 25 = .ok (.aload_n 0, 1) := by decide +kernel
theorem d_R_init_26 : decode b_R_init 26 = .ok (.iconst 5, 1) := by decide +kernel
theorem d_R_init_27 : decode b_R_init 27 = .ok (.newarray .int, 2) := by decide +kernel
theorem d_R_init_29 : decode b_R_init 29 = .ok (.putfield 25, 3) := by decide +kernel
theorem d_R_init_32 : decode b_R_init 32 = .ok (.return_, 1) := by decide +kernel
theorem d_R_lookUp_0 : decode b_R_lookUp 0 = .ok (.iconst 5, 1) := by decide +kernel
theorem d_R_lookUp_1 : decode b_R_lookUp 1 = .ok (.iload_n 1, 1) := by decide +kernel
theorem d_R_lookUp_2 : decode b_R_lookUp 2 = .ok (.imul, 1) := by decide +kernel
theorem d_R_lookUp_3 : decode b_R_lookUp 3 = .ok (.iconst 3, 1) := by decide +kernel
theorem d_R_lookUp_4 : decode b_R_lookUp 4 = .ok (.iadd, 1) := by decide +kernel
theorem d_R_lookUp_5 : decode b_R_lookUp 5 = .ok (.istore_n 2, 1) := by decide +kernel
theorem d_R_lookUp_6 : decode b_R_lookUp 6 = .ok (.aload_n 0, 1) := by decide +kernel
theorem d_R_lookUp_7 : decode b_R_lookUp 7 = .ok (.iconst 0, 1) := by decide +kernel
theorem d_R_lookUp_8 : decode b_R_lookUp 8 = .ok (.putfield 28, 3) := by decide +kernel
theorem d_R_lookUp_11 : decode b_R_lookUp 11 = .ok (.iconst 0, 1) := by decide +kernel
theorem d_R_lookUp_12 : decode b_R_lookUp 12 = .ok (.istore_n 3, 1) := by decide +kernel
theorem d_R_lookUp_13 : decode b_R_lookUp 13 = .ok (.iload_n 3, 1) := by decide +kernel
theorem d_R_lookUp_14 : decode b_R_lookUp 14 = .ok (.bipush 16, 2) := by decide +kernel
theorem d_R_lookUp_16 : decode b_R_lookUp 16 = .ok (.if_icmp .ge 62, 3) := by decide +kernel
theorem d_R_lookUp_19 : decode b_R_lookUp 19 = .ok (.aload_n 0, 1) := by decide +kernel
theorem d_R_lookUp_20 : decode b_R_lookUp 20 = .ok (.getfield 15, 3) := by decide +kernel
theorem d_R_lookUp_23 : decode b_R_lookUp 23 = .ok (.iload_n 2, 1) := by decide +kernel
theorem d_R_lookUp_24 : decode b_R_lookUp 24 = .ok (.iload_n 3, 1) := by decide +kernel
theorem d_R_lookUp_25 : decode b_R_lookUp 25 = .ok (.iadd, 1) := by decide +kernel
theorem d_R_lookUp_26 : decode b_R_lookUp 26 = .ok (.bipush 16, 2) := by decide +kernel
theorem d_R_lookUp_28 : decode b_R_lookUp 28 = .ok (.irem, 1) := by decide +kernel
theorem d_R_lookUp_29 : decode b_R_lookUp 29 = .ok (.iaload, 1) := by decide +kernel
theorem d_R_lookUp_30 : decode b_R_lookUp 30 = .ok (.istore 4, 2) := by decide +kernel
theorem d_R_lookUp_32 : decode b_R_lookUp 32 = .ok (.iload 4, 2) := by decide +kernel
theorem d_R_lookUp_34 : decode b_R_lookUp 34 = .ok (.iconst (-1), 1) := by decide +kernel
theorem d_R_lookUp_35 : decode b_R_lookUp 35 = .ok (.if_icmp .eq 37, 3) := by decide +kernel
theorem d_R_lookUp_38 : decode b_R_lookUp 38 = .ok (.aload_n 0, 1) := by decide +kernel
theorem d_R_lookUp_39 : decode b_R_lookUp 39 = .ok (.aload_n 0, 1) := by decide +kernel
theorem d_R_lookUp_40 : decode b_R_lookUp 40 = .ok (.getfield 28, 3) := by decide +kernel
theorem d_R_lookUp_43 : decode b_R_lookUp 43 = .ok (.iload 4, 2) := by decide +kernel
theorem d_R_lookUp_45 : decode b_R_lookUp 45 = .ok (.invokevirtual 31, 3) := by decide +kernel
theorem d_R_lookUp_48 : decode b_R_lookUp 48 = .ok (.ifCond .ne 24, 3) := by decide +kernel
theorem d_R_lookUp_51 : decode b_R_lookUp 51 = .ok (.aload_n 0, 1) := by decide +kernel
theorem d_R_lookUp_52 : decode b_R_lookUp 52 = .ok (.getfield 25, 3) := by decide +kernel
theorem d_R_lookUp_55 : decode b_R_lookUp 55 = .ok (.aload_n 0, 1) := by decide +kernel
theorem d_R_lookUp_56 : decode b_R_lookUp 56 = .ok (.getfield 28, 3) := by decide +kernel
theorem d_R_lookUp_59 : decode b_R_lookUp 59 = .ok (.iload 4, 2) := by decide +kernel
theorem d_R_lookUp_61 : decode b_R_lookUp 61 = .ok (.iastore, 1) := by decide +kernel
theorem d_R_lookUp_62 : decode b_R_lookUp 62 = .ok (.aload_n 0, 1) := by decide +kernel
theorem d_R_lookUp_63 : decode b_R_lookUp 63 = .ok (.dup, 1) := by decide +kernel
theorem d_R_lookUp_64 : decode b_R_lookUp 64 = .ok (.getfield 28, 3) := by decide +kernel
theorem d_R_lookUp_67 : decode b_R_lookUp 67 = .ok (.iconst 1, 1) := by decide +kernel
theorem d_R_lookUp_68 : decode b_R_lookUp 68 = .ok (.iadd, 1) := by decide +kernel
theorem d_R_lookUp_69 : decode b_R_lookUp 69 = .ok (.putfield 28, 3) := by decide +kernel
theorem d_R_lookUp_72 : decode b_R_lookUp 72 = .ok (.iinc 3 1, 3) := by decide +kernel
theorem d_R_lookUp_75 : decode b_R_lookUp 75 = .ok (.goto (-62), 3) := by decide +kernel
theorem d_R_lookUp_78 : decode b_R_lookUp 78 = .ok (.aload_n 0, 1) := by decide +kernel
theorem d_R_lookUp_79 : decode b_R_lookUp 79 = .ok (.aload_n 0, 1) := by decide +kernel
theorem d_R_lookUp_80 : decode b_R_lookUp 80 = .ok (.getfield 9, 3) := by decide +kernel
theorem d_R_lookUp_83 : decode b_R_lookUp 83 = .ok (.aload_n 0, 1) := by decide +kernel
theorem d_R_lookUp_84 : decode b_R_lookUp 84 = .ok (.getfield 28, 3) := by decide +kernel
theorem d_R_lookUp_87 : decode b_R_lookUp 87 = .ok (.invokestatic 35, 3) := by decide +kernel
theorem d_R_lookUp_90 : decode b_R_lookUp 90 = .ok (.putfield 41, 3) := by decide +kernel
theorem d_R_lookUp_93 : decode b_R_lookUp 93 = .ok (.return_, 1) := by decide +kernel
theorem d_R_hasHome_0 : decode b_R_hasHome 0 = .ok (.aload_n 0, 1) := by decide +kernel
theorem d_R_hasHome_1 : decode b_R_hasHome 1 = .ok (.aload_n 0, 1) := by decide +kernel
theorem d_R_hasHome_2 : decode b_R_hasHome 2 = .ok (.getfield 41, 3) := by decide +kernel
theorem d_R_hasHome_5 : decode b_R_hasHome 5 = .ok (.iload_n 1, 1) := by decide +kernel
theorem d_R_hasHome_6 : decode b_R_hasHome 6 = .ok (.invokevirtual 31, 3) := by decide +kernel
theorem d_R_hasHome_9 : decode b_R_hasHome 9 = .ok (.ireturn, 1) := by decide +kernel
theorem d_R_isAmongFirst_0 : decode b_R_isAmongFirst 0 = .ok (.iconst 0, 1) := by decide +kernel
theorem d_R_isAmongFirst_1 : decode b_R_isAmongFirst 1 = .ok (.istore_n 3, 1) := by decide +kernel
theorem d_R_isAmongFirst_2 : decode b_R_isAmongFirst 2 = .ok (.iload_n 3, 1) := by decide +kernel
theorem d_R_isAmongFirst_3 : decode b_R_isAmongFirst 3 = .ok (.iload_n 1, 1) := by decide +kernel
theorem d_R_isAmongFirst_4 : decode b_R_isAmongFirst 4 = .ok (.if_icmp .ge 21, 3) := by decide +kernel
theorem d_R_isAmongFirst_7 : decode b_R_isAmongFirst 7 = .ok (.aload_n 0, 1) := by decide +kernel
theorem d_R_isAmongFirst_8 : decode b_R_isAmongFirst 8 = .ok (.getfield 25, 3) := by decide +kernel
theorem d_R_isAmongFirst_11 : decode b_R_isAmongFirst 11 = .ok (.iload_n 3, 1) := by decide +kernel
theorem d_R_isAmongFirst_12 : decode b_R_isAmongFirst 12 = .ok (.iaload, 1) := by decide +kernel
theorem d_R_isAmongFirst_13 : decode b_R_isAmongFirst 13 = .ok (.iload_n 2, 1) := by decide +kernel
theorem d_R_isAmongFirst_14 : decode b_R_isAmongFirst 14 = .ok (.if_icmp .ne 5, 3) := by decide +kernel
theorem d_R_isAmongFirst_17 : decode b_R_isAmongFirst 17 = .ok (.iconst 1, 1) := by decide +kernel
theorem d_R_isAmongFirst_18 : decode b_R_isAmongFirst 18 = .ok (.ireturn, 1) := by decide +kernel
theorem d_R_isAmongFirst_19 : decode b_R_isAmongFirst 19 = .ok (.iinc 3 1, 3) := by decide +kernel
theorem d_R_isAmongFirst_22 : decode b_R_isAmongFirst 22 = .ok (.goto (-20), 3) := by decide +kernel
theorem d_R_isAmongFirst_25 : decode b_R_isAmongFirst 25 = .ok (.iconst 0, 1) := by decide +kernel
theorem d_R_isAmongFirst_26 : decode b_R_isAmongFirst 26 = .ok (.ireturn, 1) := by decide +kernel
theorem d_G_init_0 : decode b_G_init 0 = .ok (.aload_n 0, 1) := by decide +kernel
theorem d_G_init_1 : decode b_G_init 1 = .ok (.invokespecial 3, 3) := by decide +kernel
theorem d_G_init_4 : decode b_G_init 4 = .ok (.aload_n 0, 1) := by decide +kernel
theorem d_G_init_5 : decode b_G_init 5 = .ok (.bipush 40, 2) := by decide +kernel
theorem d_G_init_7 : decode b_G_init 7 = .ok (.newarray .int, 2) := by decide +kernel
theorem d_G_init_9 : decode b_G_init 9 = .ok (.putfield 9, 3) := by decide +kernel
theorem d_G_init_12 : decode b_G_init 12 = .ok (.aload_n 0, 1) := by decide +kernel
theorem d_G_init_13 : decode b_G_init 13 = .ok (.bipush 40, 2) := by decide +kernel
theorem d_G_init_15 : decode b_G_init 15 = .ok (.newarray .int, 2) := by decide +kernel
theorem d_G_init_17 : decode b_G_init 17 = .ok (.putfield 15, 3) := by decide +kernel
theorem d_G_init_20 : decode b_G_init 20 = .ok (.aload_n 0, 1) := by decide +kernel
theorem d_G_init_21 : decode b_G_init 21 = .ok (.bipush 40, 2) := by decide +kernel
theorem d_G_init_23 : decode b_G_init 23 = .ok (.newarray .int, 2) := by decide +kernel
theorem d_G_init_25 : decode b_G_init 25 = .ok (.putfield 18, 3) := by decide +kernel
theorem d_G_init_28 : decode b_G_init 28 = .ok (.aload_n 0, 1) := by decide +kernel
theorem d_G_init_29 : decode b_G_init 29 = .ok (.sipush 200, 3) := by decide +kernel
theorem d_G_init_32 : decode b_G_init 32 = .ok (.newarray .int, 2) := by decide +kernel
theorem d_G_init_34 : decode b_G_init 34 = .ok (.putfield 21, 3) := by decide +kernel
theorem d_G_init_37 : decode b_G_init 37 = .ok (.return_, 1) := by decide +kernel
theorem d_G_isMade_0 : decode b_G_isMade 0 = .ok (.iload_n 1, 1) := by decide +kernel
theorem d_G_isMade_1 : decode b_G_isMade 1 = .ok (.ifCond .lt 15, 3) := by decide +kernel
theorem d_G_isMade_4 : decode b_G_isMade 4 = .ok (.iload_n 1, 1) := by decide +kernel
theorem d_G_isMade_5 : decode b_G_isMade 5 = .ok (.aload_n 0, 1) := by decide +kernel
theorem d_G_isMade_6 : decode b_G_isMade 6 = .ok (.getfield 24, 3) := by decide +kernel
theorem d_G_isMade_9 : decode b_G_isMade 9 = .ok (.if_icmp .ge 7, 3) := by decide +kernel
theorem d_G_isMade_12 : decode b_G_isMade 12 = .ok (.iconst 1, 1) := by decide +kernel
theorem d_G_isMade_13 : decode b_G_isMade 13 = .ok (.goto 4, 3) := by decide +kernel
theorem d_G_isMade_16 : decode b_G_isMade 16 = .ok (.iconst 0, 1) := by decide +kernel
theorem d_G_isMade_17 : decode b_G_isMade 17 = .ok (.ireturn, 1) := by decide +kernel
theorem d_G_clockCount_0 : decode b_G_clockCount 0 = .ok (.aload_n 0, 1) := by decide +kernel
theorem d_G_clockCount_1 : decode b_G_clockCount 1 = .ok (.getfield 21, 3) := by decide +kernel
theorem d_G_clockCount_4 : decode b_G_clockCount 4 = .ok (.iload_n 1, 1) := by decide +kernel
theorem d_G_clockCount_5 : decode b_G_clockCount 5 = .ok (.iconst 5, 1) := by decide +kernel
theorem d_G_clockCount_6 : decode b_G_clockCount 6 = .ok (.imul, 1) := by decide +kernel
theorem d_G_clockCount_7 : decode b_G_clockCount 7 = .ok (.iload_n 2, 1) := by decide +kernel
theorem d_G_clockCount_8 : decode b_G_clockCount 8 = .ok (.iadd, 1) := by decide +kernel
theorem d_G_clockCount_9 : decode b_G_clockCount 9 = .ok (.iaload, 1) := by decide +kernel
theorem d_G_clockCount_10 : decode b_G_clockCount 10 = .ok (.ireturn, 1) := by decide +kernel
theorem d_G_add_0 : decode b_G_add 0 = .ok (.aload_n 0, 1) := by decide +kernel
theorem d_G_add_1 : decode b_G_add 1 = .ok (.getfield 24, 3) := by decide +kernel
theorem d_G_add_4 : decode b_G_add 4 = .ok (.istore 5, 2) := by decide +kernel
theorem d_G_add_6 : decode b_G_add 6 = .ok (.aload 4, 2) := by decide +kernel
theorem d_G_add_8 : decode b_G_add 8 = .ok (.iconst 0, 1) := by decide +kernel
theorem d_G_add_9 : decode b_G_add 9 = .ok (.aload_n 0, 1) := by decide +kernel
theorem d_G_add_10 : decode b_G_add 10 = .ok (.getfield 21, 3) := by decide +kernel
theorem d_G_add_13 : decode b_G_add 13 = .ok (.iload 5, 2) := by decide +kernel
theorem d_G_add_15 : decode b_G_add 15 = .ok (.iconst 5, 1) := by decide +kernel
theorem d_G_add_16 : decode b_G_add 16 = .ok (.imul, 1) := by decide +kernel
theorem d_G_add_17 : decode b_G_add 17 = .ok (.iconst 5, 1) := by decide +kernel
theorem d_G_add_18 : decode b_G_add 18 = .ok (.invokestatic 28, 3) := by decide +kernel
theorem d_G_add_21 : decode b_G_add 21 = .ok (.aload_n 0, 1) := by decide +kernel
theorem d_G_add_22 : decode b_G_add 22 = .ok (.getfield 21, 3) := by decide +kernel
theorem d_G_add_25 : decode b_G_add 25 = .ok (.iload 5, 2) := by decide +kernel
theorem d_G_add_27 : decode b_G_add 27 = .ok (.iconst 5, 1) := by decide +kernel
theorem d_G_add_28 : decode b_G_add 28 = .ok (.imul, 1) := by decide +kernel
theorem d_G_add_29 : decode b_G_add 29 = .ok (.iload_n 3, 1) := by decide +kernel
theorem d_G_add_30 : decode b_G_add 30 = .ok (.iadd, 1) := by decide +kernel
theorem d_G_add_31 : decode b_G_add 31 = .ok (.iconst 1, 1) := by decide +kernel
theorem d_G_add_32 : decode b_G_add 32 = .ok (.aload_n 0, 1) := by decide +kernel
theorem d_G_add_33 : decode b_G_add 33 = .ok (.iload_n 3, 1) := by decide +kernel
theorem d_G_add_34 : decode b_G_add 34 = .ok (.iload_n 1, 1) := by decide +kernel
theorem d_G_add_35 : decode b_G_add 35 = .ok (.invokevirtual 34, 3) := by decide +kernel
theorem d_G_add_38 : decode b_G_add 38 = .ok (.iadd, 1) := by decide +kernel
theorem d_G_add_39 : decode b_G_add 39 = .ok (.iastore, 1) := by decide +kernel
theorem d_G_add_40 : decode b_G_add 40 = .ok (.aload_n 0, 1) := by decide +kernel
theorem d_G_add_41 : decode b_G_add 41 = .ok (.getfield 9, 3) := by decide +kernel
theorem d_G_add_44 : decode b_G_add 44 = .ok (.iload 5, 2) := by decide +kernel
theorem d_G_add_46 : decode b_G_add 46 = .ok (.iload_n 1, 1) := by decide +kernel
theorem d_G_add_47 : decode b_G_add 47 = .ok (.iastore, 1) := by decide +kernel
theorem d_G_add_48 : decode b_G_add 48 = .ok (.aload_n 0, 1) := by decide +kernel
theorem d_G_add_49 : decode b_G_add 49 = .ok (.getfield 15, 3) := by decide +kernel
theorem d_G_add_52 : decode b_G_add 52 = .ok (.iload 5, 2) := by decide +kernel
theorem d_G_add_54 : decode b_G_add 54 = .ok (.iload_n 2, 1) := by decide +kernel
theorem d_G_add_55 : decode b_G_add 55 = .ok (.iastore, 1) := by decide +kernel
theorem d_G_add_56 : decode b_G_add 56 = .ok (.aload_n 0, 1) := by decide +kernel
theorem d_G_add_57 : decode b_G_add 57 = .ok (.getfield 18, 3) := by decide +kernel
theorem d_G_add_60 : decode b_G_add 60 = .ok (.iload 5, 2) := by decide +kernel
theorem d_G_add_62 : decode b_G_add 62 = .ok (.iload_n 3, 1) := by decide +kernel
theorem d_G_add_63 : decode b_G_add 63 = .ok (.iastore, 1) := by decide +kernel
theorem d_G_add_64 : decode b_G_add 64 = .ok (.aload_n 0, 1) := by decide +kernel
theorem d_G_add_65 : decode b_G_add 65 = .ok (.dup, 1) := by decide +kernel
theorem d_G_add_66 : decode b_G_add 66 = .ok (.getfield 24, 3) := by decide +kernel
theorem d_G_add_69 : decode b_G_add 69 = .ok (.iconst 1, 1) := by decide +kernel
theorem d_G_add_70 : decode b_G_add 70 = .ok (.iadd, 1) := by decide +kernel
theorem d_G_add_71 : decode b_G_add 71 = .ok (.putfield 24, 3) := by decide +kernel
theorem d_G_add_74 : decode b_G_add 74 = .ok (.iload 5, 2) := by decide +kernel
theorem d_G_add_76 : decode b_G_add 76 = .ok (.ireturn, 1) := by decide +kernel
theorem d_G_numberWritten_0 : decode b_G_numberWritten 0 = .ok (.iconst 0, 1) := by decide +kernel
theorem d_G_numberWritten_1 : decode b_G_numberWritten 1 = .ok (.istore_n 3, 1) := by decide +kernel
theorem d_G_numberWritten_2 : decode b_G_numberWritten 2 = .ok (.iconst 0, 1) := by decide +kernel
theorem d_G_numberWritten_3 : decode b_G_numberWritten 3 = .ok (.istore 4, 2) := by decide +kernel
theorem d_G_numberWritten_5 : decode b_G_numberWritten 5 = .ok (.iload 4, 2) := by decide +kernel
theorem d_G_numberWritten_7 : decode b_G_numberWritten 7 = .ok (.aload_n 0, 1) := by decide +kernel
theorem d_G_numberWritten_8 : decode b_G_numberWritten 8 = .ok (.getfield 24, 3) := by decide +kernel
theorem d_G_numberWritten_11 : decode b_G_numberWritten 11 = .ok (.if_icmp .ge 34, 3) := by decide +kernel
theorem d_G_numberWritten_14 : decode b_G_numberWritten 14 = .ok (.aload_n 0, 1) := by decide +kernel
theorem d_G_numberWritten_15 : decode b_G_numberWritten 15 = .ok (.getfield 18, 3) := by decide +kernel
theorem d_G_numberWritten_18 : decode b_G_numberWritten 18 = .ok (.iload 4, 2) := by decide +kernel
theorem d_G_numberWritten_20 : decode b_G_numberWritten 20 = .ok (.iaload, 1) := by decide +kernel
theorem d_G_numberWritten_21 : decode b_G_numberWritten 21 = .ok (.iload_n 1, 1) := by decide +kernel
theorem d_G_numberWritten_22 : decode b_G_numberWritten 22 = .ok (.if_icmp .ne 17, 3) := by decide +kernel
theorem d_G_numberWritten_25 : decode b_G_numberWritten 25 = .ok (.aload_n 0, 1) := by decide +kernel
theorem d_G_numberWritten_26 : decode b_G_numberWritten 26 = .ok (.getfield 9, 3) := by decide +kernel
theorem d_G_numberWritten_29 : decode b_G_numberWritten 29 = .ok (.iload 4, 2) := by decide +kernel
theorem d_G_numberWritten_31 : decode b_G_numberWritten 31 = .ok (.iaload, 1) := by decide +kernel
theorem d_G_numberWritten_32 : decode b_G_numberWritten 32 = .ok (.iload_n 2, 1) := by decide +kernel
theorem d_G_numberWritten_33 : decode b_G_numberWritten 33 = .ok (.if_icmp .ne 6, 3) := by decide +kernel
theorem d_G_numberWritten_36 : decode b_G_numberWritten 36 = .ok (.iinc 3 1, 3) := by decide +kernel
theorem d_G_numberWritten_39 : decode b_G_numberWritten 39 = .ok (.iinc 4 1, 3) := by decide +kernel
theorem d_G_numberWritten_42 : decode b_G_numberWritten 42 = .ok (.goto (-37), 3) := by decide +kernel
theorem d_G_numberWritten_45 : decode b_G_numberWritten 45 = .ok (.iload_n 3, 1) := by decide +kernel
theorem d_G_numberWritten_46 : decode b_G_numberWritten 46 = .ok (.ireturn, 1) := by decide +kernel
theorem d_G_isAtOrBelow_0 : decode b_G_isAtOrBelow 0 = .ok (.iconst 0, 1) := by decide +kernel
theorem d_G_isAtOrBelow_1 : decode b_G_isAtOrBelow 1 = .ok (.istore_n 3, 1) := by decide +kernel
theorem d_G_isAtOrBelow_2 : decode b_G_isAtOrBelow 2 = .ok (.iload_n 3, 1) := by decide +kernel
theorem d_G_isAtOrBelow_3 : decode b_G_isAtOrBelow 3 = .ok (.iconst 5, 1) := by decide +kernel
theorem d_G_isAtOrBelow_4 : decode b_G_isAtOrBelow 4 = .ok (.if_icmp .ge 26, 3) := by decide +kernel
theorem d_G_isAtOrBelow_7 : decode b_G_isAtOrBelow 7 = .ok (.aload_n 0, 1) := by decide +kernel
theorem d_G_isAtOrBelow_8 : decode b_G_isAtOrBelow 8 = .ok (.iload_n 1, 1) := by decide +kernel
theorem d_G_isAtOrBelow_9 : decode b_G_isAtOrBelow 9 = .ok (.iload_n 3, 1) := by decide +kernel
theorem d_G_isAtOrBelow_10 : decode b_G_isAtOrBelow 10 = .ok (.invokevirtual 38, 3) := by decide +kernel
theorem d_G_isAtOrBelow_13 : decode b_G_isAtOrBelow 13 = .ok (.aload_n 0, 1) := by decide +kernel
theorem d_G_isAtOrBelow_14 : decode b_G_isAtOrBelow 14 = .ok (.iload_n 2, 1) := by decide +kernel
theorem d_G_isAtOrBelow_15 : decode b_G_isAtOrBelow 15 = .ok (.iload_n 3, 1) := by decide +kernel
theorem d_G_isAtOrBelow_16 : decode b_G_isAtOrBelow 16 = .ok (.invokevirtual 38, 3) := by decide +kernel
theorem d_G_isAtOrBelow_19 : decode b_G_isAtOrBelow 19 = .ok (.if_icmp .le 5, 3) := by decide +kernel
theorem d_G_isAtOrBelow_22 : decode b_G_isAtOrBelow 22 = .ok (.iconst 0, 1) := by decide +kernel
theorem d_G_isAtOrBelow_23 : decode b_G_isAtOrBelow 23 = .ok (.ireturn, 1) := by decide +kernel
theorem d_G_isAtOrBelow_24 : decode b_G_isAtOrBelow 24 = .ok (.iinc 3 1, 3) := by decide +kernel
theorem d_G_isAtOrBelow_27 : decode b_G_isAtOrBelow 27 = .ok (.goto (-25), 3) := by decide +kernel
theorem d_G_isAtOrBelow_30 : decode b_G_isAtOrBelow 30 = .ok (.iconst 1, 1) := by decide +kernel
theorem d_G_isAtOrBelow_31 : decode b_G_isAtOrBelow 31 = .ok (.ireturn, 1) := by decide +kernel
theorem d_N_init_0 : decode b_N_init 0 = .ok (.aload_n 0, 1) := by decide +kernel
theorem d_N_init_1 : decode b_N_init 1 = .ok (.invokespecial 3, 3) := by decide +kernel
theorem d_N_init_4 : decode b_N_init 4 = .ok (.aload_n 0, 1) := by decide +kernel
theorem d_N_init_5 : decode b_N_init 5 = .ok (.aload_n 1, 1) := by decide +kernel
theorem d_N_init_6 : decode b_N_init 6 = .ok (.putfield 9, 3) := by decide +kernel
theorem d_N_init_9 : decode b_N_init 9 = .ok (.aload_n 0, 1) := by decide +kernel
theorem d_N_init_10 : decode b_N_init 10 = .ok (.bipush 40, 2) := by decide +kernel
theorem d_N_init_12 : decode b_N_init 12 = .ok (.newarray .boolean, 2) := by decide +kernel
theorem d_N_init_14 : decode b_N_init 14 = .ok (.putfield 15, 3) := by decide +kernel
theorem d_N_init_17 : decode b_N_init 17 = .ok (.aload_n 0, 1) := by decide +kernel
theorem d_N_init_18 : decode b_N_init 18 = .ok (.bipush 40, 2) := by decide +kernel
theorem d_N_init_20 : decode b_N_init 20 = .ok (.newarray .int, 2) := by decide +kernel
theorem d_N_init_22 : decode b_N_init 22 = .ok (.putfield 19, 3) := by decide +kernel
theorem d_N_init_25 : decode b_N_init 25 = .ok (.aload_n 0, 1) := by decide +kernel
theorem d_N_init_26 : decode b_N_init 26 = .ok (.getfield 19, 3) := by decide +kernel
theorem d_N_init_29 : decode b_N_init 29 = .ok (.iconst (-1), 1) := by decide +kernel
theorem d_N_init_30 : decode b_N_init 30 = .ok (.invokestatic 23, 3) := by decide +kernel
theorem d_N_init_33 : decode b_N_init 33 = .ok (.aload_n 0, 1) := by decide +kernel
theorem d_N_init_34 : decode b_N_init 34 = .ok (.iconst 1, 1) := by decide +kernel
theorem d_N_init_35 : decode b_N_init 35 = .ok (.putfield 29, 3) := by decide +kernel
theorem d_N_init_38 : decode b_N_init 38 = .ok (.return_, 1) := by decide +kernel
theorem d_N_hasHintOf_0 : decode b_N_hasHintOf 0 = .ok (.aload_n 0, 1) := by decide +kernel
theorem d_N_hasHintOf_1 : decode b_N_hasHintOf 1 = .ok (.getfield 19, 3) := by decide +kernel
theorem d_N_hasHintOf_4 : decode b_N_hasHintOf 4 = .ok (.iload_n 1, 1) := by decide +kernel
theorem d_N_hasHintOf_5 : decode b_N_hasHintOf 5 = .ok (.iaload, 1) := by decide +kernel
theorem d_N_hasHintOf_6 : decode b_N_hasHintOf 6 = .ok (.iconst (-1), 1) := by decide +kernel
theorem d_N_hasHintOf_7 : decode b_N_hasHintOf 7 = .ok (.if_icmp .eq 7, 3) := by decide +kernel
theorem d_N_hasHintOf_10 : decode b_N_hasHintOf 10 = .ok (.iconst 1, 1) := by decide +kernel
theorem d_N_hasHintOf_11 : decode b_N_hasHintOf 11 = .ok (.goto 4, 3) := by decide +kernel
theorem d_N_hasHintOf_14 : decode b_N_hasHintOf 14 = .ok (.iconst 0, 1) := by decide +kernel
theorem d_N_hasHintOf_15 : decode b_N_hasHintOf 15 = .ok (.ireturn, 1) := by decide +kernel
theorem d_N_take_0 : decode b_N_take 0 = .ok (.aload_n 0, 1) := by decide +kernel
theorem d_N_take_1 : decode b_N_take 1 = .ok (.iload_n 1, 1) := by decide +kernel
theorem d_N_take_2 : decode b_N_take 2 = .ok (.invokevirtual 33, 3) := by decide +kernel
theorem d_N_take_5 : decode b_N_take 5 = .ok (.ifCond .eq 5, 3) := by decide +kernel
theorem d_N_take_8 : decode b_N_take 8 = .ok (.iconst 0, 1) := by decide +kernel
theorem d_N_take_9 : decode b_N_take 9 = .ok (.ireturn, 1) := by decide +kernel
theorem d_N_take_10 : decode b_N_take 10 = .ok (.iconst 0, 1) := by decide +kernel
theorem d_N_take_11 : decode b_N_take 11 = .ok (.istore_n 2, 1) := by decide +kernel
theorem d_N_take_12 : decode b_N_take 12 = .ok (.iload_n 2, 1) := by decide +kernel
theorem d_N_take_13 : decode b_N_take 13 = .ok (.aload_n 0, 1) := by decide +kernel
theorem d_N_take_14 : decode b_N_take 14 = .ok (.getfield 9, 3) := by decide +kernel
theorem d_N_take_17 : decode b_N_take 17 = .ok (.getfield 37, 3) := by decide +kernel
theorem d_N_take_20 : decode b_N_take 20 = .ok (.if_icmp .ge 37, 3) := by decide +kernel
theorem d_N_take_23 : decode b_N_take 23 = .ok (.aload_n 0, 1) := by decide +kernel
theorem d_N_take_24 : decode b_N_take 24 = .ok (.iload_n 2, 1) := by decide +kernel
theorem d_N_take_25 : decode b_N_take 25 = .ok (.iload_n 1, 1) := by decide +kernel
theorem d_N_take_26 : decode b_N_take 26 = .ok (.invokevirtual 43, 3) := by decide +kernel
theorem d_N_take_29 : decode b_N_take 29 = .ok (.ifCond .eq 22, 3) := by decide +kernel
theorem d_N_take_32 : decode b_N_take 32 = .ok (.aload_n 0, 1) := by decide +kernel
theorem d_N_take_33 : decode b_N_take 33 = .ok (.getfield 9, 3) := by decide +kernel
theorem d_N_take_36 : decode b_N_take 36 = .ok (.iload_n 2, 1) := by decide +kernel
theorem d_N_take_37 : decode b_N_take 37 = .ok (.iload_n 1, 1) := by decide +kernel
theorem d_N_take_38 : decode b_N_take 38 = .ok (.invokevirtual 47, 3) := by decide +kernel
theorem d_N_take_41 : decode b_N_take 41 = .ok (.ifCond .eq 10, 3) := by decide +kernel
theorem d_N_take_44 : decode b_N_take 44 = .ok (.aload_n 0, 1) := by decide +kernel
theorem d_N_take_45 : decode b_N_take 45 = .ok (.getfield 15, 3) := by decide +kernel
theorem d_N_take_48 : decode b_N_take 48 = .ok (.iload_n 2, 1) := by decide +kernel
theorem d_N_take_49 : decode b_N_take 49 = .ok (.iconst 0, 1) := by decide +kernel
theorem d_N_take_50 : decode b_N_take 50 = .ok (.bastore, 1) := by decide +kernel
theorem d_N_take_51 : decode b_N_take 51 = .ok (.iinc 2 1, 3) := by decide +kernel
theorem d_N_take_54 : decode b_N_take 54 = .ok (.goto (-42), 3) := by decide +kernel
theorem d_N_take_57 : decode b_N_take 57 = .ok (.aload_n 0, 1) := by decide +kernel
theorem d_N_take_58 : decode b_N_take 58 = .ok (.getfield 15, 3) := by decide +kernel
theorem d_N_take_61 : decode b_N_take 61 = .ok (.iload_n 1, 1) := by decide +kernel
theorem d_N_take_62 : decode b_N_take 62 = .ok (.iconst 1, 1) := by decide +kernel
theorem d_N_take_63 : decode b_N_take 63 = .ok (.bastore, 1) := by decide +kernel
theorem d_N_take_64 : decode b_N_take 64 = .ok (.iconst 1, 1) := by decide +kernel
theorem d_N_take_65 : decode b_N_take 65 = .ok (.ireturn, 1) := by decide +kernel
theorem d_N_isPassed_0 : decode b_N_isPassed 0 = .ok (.iconst 0, 1) := by decide +kernel
theorem d_N_isPassed_1 : decode b_N_isPassed 1 = .ok (.istore_n 2, 1) := by decide +kernel
theorem d_N_isPassed_2 : decode b_N_isPassed 2 = .ok (.iload_n 2, 1) := by decide +kernel
theorem d_N_isPassed_3 : decode b_N_isPassed 3 = .ok (.aload_n 0, 1) := by decide +kernel
theorem d_N_isPassed_4 : decode b_N_isPassed 4 = .ok (.getfield 9, 3) := by decide +kernel
theorem d_N_isPassed_7 : decode b_N_isPassed 7 = .ok (.getfield 37, 3) := by decide +kernel
theorem d_N_isPassed_10 : decode b_N_isPassed 10 = .ok (.if_icmp .ge 32, 3) := by decide +kernel
theorem d_N_isPassed_13 : decode b_N_isPassed 13 = .ok (.aload_n 0, 1) := by decide +kernel
theorem d_N_isPassed_14 : decode b_N_isPassed 14 = .ok (.iload_n 2, 1) := by decide +kernel
theorem d_N_isPassed_15 : decode b_N_isPassed 15 = .ok (.iload_n 1, 1) := by decide +kernel
theorem d_N_isPassed_16 : decode b_N_isPassed 16 = .ok (.invokevirtual 43, 3) := by decide +kernel
theorem d_N_isPassed_19 : decode b_N_isPassed 19 = .ok (.ifCond .eq 17, 3) := by decide +kernel
theorem d_N_isPassed_22 : decode b_N_isPassed 22 = .ok (.aload_n 0, 1) := by decide +kernel
theorem d_N_isPassed_23 : decode b_N_isPassed 23 = .ok (.getfield 9, 3) := by decide +kernel
theorem d_N_isPassed_26 : decode b_N_isPassed 26 = .ok (.iload_n 1, 1) := by decide +kernel
theorem d_N_isPassed_27 : decode b_N_isPassed 27 = .ok (.iload_n 2, 1) := by decide +kernel
theorem d_N_isPassed_28 : decode b_N_isPassed 28 = .ok (.invokevirtual 47, 3) := by decide +kernel
theorem d_N_isPassed_31 : decode b_N_isPassed 31 = .ok (.ifCond .eq 5, 3) := by decide +kernel
theorem d_N_isPassed_34 : decode b_N_isPassed 34 = .ok (.iconst 1, 1) := by decide +kernel
theorem d_N_isPassed_35 : decode b_N_isPassed 35 = .ok (.ireturn, 1) := by decide +kernel
theorem d_N_isPassed_36 : decode b_N_isPassed 36 = .ok (.iinc 2 1, 3) := by decide +kernel
theorem d_N_isPassed_39 : decode b_N_isPassed 39 = .ok (.goto (-37), 3) := by decide +kernel
theorem d_N_isPassed_42 : decode b_N_isPassed 42 = .ok (.iconst 0, 1) := by decide +kernel
theorem d_N_isPassed_43 : decode b_N_isPassed 43 = .ok (.ireturn, 1) := by decide +kernel
theorem d_N_hasBeside_0 : decode b_N_hasBeside 0 = .ok (.aload_n 0, 1) := by decide +kernel
theorem d_N_hasBeside_1 : decode b_N_hasBeside 1 = .ok (.getfield 15, 3) := by decide +kernel
theorem d_N_hasBeside_4 : decode b_N_hasBeside 4 = .ok (.iload_n 1, 1) := by decide +kernel
theorem d_N_hasBeside_5 : decode b_N_hasBeside 5 = .ok (.baload, 1) := by decide +kernel
theorem d_N_hasBeside_6 : decode b_N_hasBeside 6 = .ok (.ifCond .eq 28, 3) := by decide +kernel
theorem d_N_hasBeside_9 : decode b_N_hasBeside 9 = .ok (.aload_n 0, 1) := by decide +kernel
theorem d_N_hasBeside_10 : decode b_N_hasBeside 10 = .ok (.getfield 9, 3) := by decide +kernel
theorem d_N_hasBeside_13 : decode b_N_hasBeside 13 = .ok (.getfield 50, 3) := by decide +kernel
theorem d_N_hasBeside_16 : decode b_N_hasBeside 16 = .ok (.iload_n 1, 1) := by decide +kernel
theorem d_N_hasBeside_17 : decode b_N_hasBeside 17 = .ok (.iaload, 1) := by decide +kernel
theorem d_N_hasBeside_18 : decode b_N_hasBeside 18 = .ok (.aload_n 0, 1) := by decide +kernel
theorem d_N_hasBeside_19 : decode b_N_hasBeside 19 = .ok (.getfield 9, 3) := by decide +kernel
theorem d_N_hasBeside_22 : decode b_N_hasBeside 22 = .ok (.getfield 50, 3) := by decide +kernel
theorem d_N_hasBeside_25 : decode b_N_hasBeside 25 = .ok (.iload_n 2, 1) := by decide +kernel
theorem d_N_hasBeside_26 : decode b_N_hasBeside 26 = .ok (.iaload, 1) := by decide +kernel
theorem d_N_hasBeside_27 : decode b_N_hasBeside 27 = .ok (.if_icmp .ne 7, 3) := by decide +kernel
theorem d_N_hasBeside_30 : decode b_N_hasBeside 30 = .ok (.iconst 1, 1) := by decide +kernel
theorem d_N_hasBeside_31 : decode b_N_hasBeside 31 = .ok (.goto 4, 3) := by decide +kernel
theorem d_N_hasBeside_34 : decode b_N_hasBeside 34 = .ok (.iconst 0, 1) := by decide +kernel
theorem d_N_hasBeside_35 : decode b_N_hasBeside 35 = .ok (.ireturn, 1) := by decide +kernel
theorem d_N_takeAll_0 : decode b_N_takeAll 0 = .ok (.iconst 0, 1) := by decide +kernel
theorem d_N_takeAll_1 : decode b_N_takeAll 1 = .ok (.istore_n 2, 1) := by decide +kernel
theorem d_N_takeAll_2 : decode b_N_takeAll 2 = .ok (.iconst 0, 1) := by decide +kernel
theorem d_N_takeAll_3 : decode b_N_takeAll 3 = .ok (.istore_n 3, 1) := by decide +kernel
theorem d_N_takeAll_4 : decode b_N_takeAll 4 = .ok (.iload_n 3, 1) := by decide +kernel
theorem d_N_takeAll_5 : decode b_N_takeAll 5 = .ok (.aload_n 0, 1) := by decide +kernel
theorem d_N_takeAll_6 : decode b_N_takeAll 6 = .ok (.getfield 9, 3) := by decide +kernel
theorem d_N_takeAll_9 : decode b_N_takeAll 9 = .ok (.getfield 37, 3) := by decide +kernel
theorem d_N_takeAll_12 : decode b_N_takeAll 12 = .ok (.if_icmp .ge 26, 3) := by decide +kernel
theorem d_N_takeAll_15 : decode b_N_takeAll 15 = .ok (.aload_n 1, 1) := by decide +kernel
theorem d_N_takeAll_16 : decode b_N_takeAll 16 = .ok (.iload_n 3, 1) := by decide +kernel
theorem d_N_takeAll_17 : decode b_N_takeAll 17 = .ok (.baload, 1) := by decide +kernel
theorem d_N_takeAll_18 : decode b_N_takeAll 18 = .ok (.ifCond .eq 14, 3) := by decide +kernel
theorem d_N_takeAll_21 : decode b_N_takeAll 21 = .ok (.aload_n 0, 1) := by decide +kernel
theorem d_N_takeAll_22 : decode b_N_takeAll 22 = .ok (.iload_n 3, 1) := by decide +kernel
theorem d_N_takeAll_23 : decode b_N_takeAll 23 = .ok (.invokevirtual 53, 3) := by decide +kernel
theorem d_N_takeAll_26 : decode b_N_takeAll 26 = .ok (.ifCond .eq 6, 3) := by decide +kernel
theorem d_N_takeAll_29 : decode b_N_takeAll 29 = .ok (.iinc 2 1, 3) := by decide +kernel
theorem d_N_takeAll_32 : decode b_N_takeAll 32 = .ok (.iinc 3 1, 3) := by decide +kernel
theorem d_N_takeAll_35 : decode b_N_takeAll 35 = .ok (.goto (-31), 3) := by decide +kernel
theorem d_N_takeAll_38 : decode b_N_takeAll 38 = .ok (.iload_n 2, 1) := by decide +kernel
theorem d_N_takeAll_39 : decode b_N_takeAll 39 = .ok (.ireturn, 1) := by decide +kernel
theorem d_N_dropAll_0 : decode b_N_dropAll 0 = .ok (.iconst 0, 1) := by decide +kernel
theorem d_N_dropAll_1 : decode b_N_dropAll 1 = .ok (.istore_n 2, 1) := by decide +kernel
theorem d_N_dropAll_2 : decode b_N_dropAll 2 = .ok (.iload_n 2, 1) := by decide +kernel
theorem d_N_dropAll_3 : decode b_N_dropAll 3 = .ok (.aload_n 0, 1) := by decide +kernel
theorem d_N_dropAll_4 : decode b_N_dropAll 4 = .ok (.getfield 9, 3) := by decide +kernel
theorem d_N_dropAll_7 : decode b_N_dropAll 7 = .ok (.getfield 37, 3) := by decide +kernel
theorem d_N_dropAll_10 : decode b_N_dropAll 10 = .ok (.if_icmp .ge 22, 3) := by decide +kernel
theorem d_N_dropAll_13 : decode b_N_dropAll 13 = .ok (.aload_n 1, 1) := by decide +kernel
theorem d_N_dropAll_14 : decode b_N_dropAll 14 = .ok (.iload_n 2, 1) := by decide +kernel
theorem d_N_dropAll_15 : decode b_N_dropAll 15 = .ok (.baload, 1) := by decide +kernel
theorem d_N_dropAll_16 : decode b_N_dropAll 16 = .ok (.ifCond .eq 10, 3) := by decide +kernel
theorem d_N_dropAll_19 : decode b_N_dropAll 19 = .ok (.aload_n 0, 1) := by decide +kernel
theorem d_N_dropAll_20 : decode b_N_dropAll 20 = .ok (.getfield 15, 3) := by decide +kernel
theorem d_N_dropAll_23 : decode b_N_dropAll 23 = .ok (.iload_n 2, 1) := by decide +kernel
theorem d_N_dropAll_24 : decode b_N_dropAll 24 = .ok (.iconst 0, 1) := by decide +kernel
theorem d_N_dropAll_25 : decode b_N_dropAll 25 = .ok (.bastore, 1) := by decide +kernel
theorem d_N_dropAll_26 : decode b_N_dropAll 26 = .ok (.iinc 2 1, 3) := by decide +kernel
theorem d_N_dropAll_29 : decode b_N_dropAll 29 = .ok (.goto (-27), 3) := by decide +kernel
theorem d_N_dropAll_32 : decode b_N_dropAll 32 = .ok (.return_, 1) := by decide +kernel
theorem d_N_writeOut_0 : decode b_N_writeOut 0 = .ok (.iconst 0, 1) := by decide +kernel
theorem d_N_writeOut_1 : decode b_N_writeOut 1 = .ok (.istore_n 3, 1) := by decide +kernel
theorem d_N_writeOut_2 : decode b_N_writeOut 2 = .ok (.iconst 0, 1) := by decide +kernel
theorem d_N_writeOut_3 : decode b_N_writeOut 3 = .ok (.istore 4, 2) := by decide +kernel
theorem d_N_writeOut_5 : decode b_N_writeOut 5 = .ok (.iload 4, 2) := by decide +kernel
theorem d_N_writeOut_7 : decode b_N_writeOut 7 = .ok (.aload_n 0, 1) := by decide +kernel
theorem d_N_writeOut_8 : decode b_N_writeOut 8 = .ok (.getfield 9, 3) := by decide +kernel
theorem d_N_writeOut_11 : decode b_N_writeOut 11 = .ok (.getfield 37, 3) := by decide +kernel
theorem d_N_writeOut_14 : decode b_N_writeOut 14 = .ok (.if_icmp .ge 52, 3) := by decide +kernel
theorem d_N_writeOut_17 : decode b_N_writeOut 17 = .ok (.aload_n 2, 1) := by decide +kernel
theorem d_N_writeOut_18 : decode b_N_writeOut 18 = .ok (.iload 4, 2) := by decide +kernel
theorem d_N_writeOut_20 : decode b_N_writeOut 20 = .ok (.aload_n 0, 1) := by decide +kernel
theorem d_N_writeOut_21 : decode b_N_writeOut 21 = .ok (.getfield 15, 3) := by decide +kernel
theorem d_N_writeOut_24 : decode b_N_writeOut 24 = .ok (.iload 4, 2) := by decide +kernel
theorem d_N_writeOut_26 : decode b_N_writeOut 26 = .ok (.baload, 1) := by decide +kernel
theorem d_N_writeOut_27 : decode b_N_writeOut 27 = .ok (.ifCond .eq 21, 3) := by decide +kernel
theorem d_N_writeOut_30 : decode b_N_writeOut 30 = .ok (.aload_n 0, 1) := by decide +kernel
theorem d_N_writeOut_31 : decode b_N_writeOut 31 = .ok (.getfield 9, 3) := by decide +kernel
theorem d_N_writeOut_34 : decode b_N_writeOut 34 = .ok (.getfield 50, 3) := by decide +kernel
theorem d_N_writeOut_37 : decode b_N_writeOut 37 = .ok (.iload 4, 2) := by decide +kernel
theorem d_N_writeOut_39 : decode b_N_writeOut 39 = .ok (.iaload, 1) := by decide +kernel
theorem d_N_writeOut_40 : decode b_N_writeOut 40 = .ok (.iload_n 1, 1) := by decide +kernel
theorem d_N_writeOut_41 : decode b_N_writeOut 41 = .ok (.if_icmp .ne 7, 3) := by decide +kernel
theorem d_N_writeOut_44 : decode b_N_writeOut 44 = .ok (.iconst 1, 1) := by decide +kernel
theorem d_N_writeOut_45 : decode b_N_writeOut 45 = .ok (.goto 4, 3) := by decide +kernel
theorem d_N_writeOut_48 : decode b_N_writeOut 48 = .ok (.iconst 0, 1) := by decide +kernel
theorem d_N_writeOut_49 : decode b_N_writeOut 49 = .ok (.bastore, 1) := by decide +kernel
theorem d_N_writeOut_50 : decode b_N_writeOut 50 = .ok (.aload_n 2, 1) := by decide +kernel
theorem d_N_writeOut_51 : decode b_N_writeOut 51 = .ok (.iload 4, 2) := by decide +kernel
theorem d_N_writeOut_53 : decode b_N_writeOut 53 = .ok (.baload, 1) := by decide +kernel
theorem d_N_writeOut_54 : decode b_N_writeOut 54 = .ok (.ifCond .eq 6, 3) := by decide +kernel
theorem d_N_writeOut_57 : decode b_N_writeOut 57 = .ok (.iinc 3 1, 3) := by decide +kernel
theorem d_N_writeOut_60 : decode b_N_writeOut 60 = .ok (.iinc 4 1, 3) := by decide +kernel
theorem d_N_writeOut_63 : decode b_N_writeOut 63 = .ok (.goto (-58), 3) := by decide +kernel
theorem d_N_writeOut_66 : decode b_N_writeOut 66 = .ok (.iload_n 3, 1) := by decide +kernel
theorem d_N_writeOut_67 : decode b_N_writeOut 67 = .ok (.ireturn, 1) := by decide +kernel
theorem d_C_init_0 : decode b_C_init 0 = .ok (.aload_n 0, 1) := by decide +kernel
theorem d_C_init_1 : decode b_C_init 1 = .ok (.invokespecial 3, 3) := by decide +kernel
theorem d_C_init_4 : decode b_C_init 4 = .ok (.aload_n 0, 1) := by decide +kernel
theorem d_C_init_5 : decode b_C_init 5 = .ok (.iconst 5, 1) := by decide +kernel
theorem d_C_init_6 : decode b_C_init 6 = .ok (.newarray .int, 2) := by decide +kernel
theorem d_C_init_8 : decode b_C_init 8 = .ok (.putfield 9, 3) := by decide +kernel
theorem d_C_init_11 : decode b_C_init 11 = .ok (.aload_n 0, 1) := by decide +kernel
theorem d_C_init_12 : decode b_C_init 12 = .ok (.iconst (-1), 1) := by decide +kernel
theorem d_C_init_13 : decode b_C_init 13 = .ok (.putfield 15, 3) := by decide +kernel
theorem d_C_init_16 : decode b_C_init 16 = .ok (.return_, 1) := by decide +kernel
theorem d_C_isEmpty_0 : decode b_C_isEmpty 0 = .ok (.aload_n 0, 1) := by decide +kernel
theorem d_C_isEmpty_1 : decode b_C_isEmpty 1 = .ok (.getfield 15, 3) := by decide +kernel
theorem d_C_isEmpty_4 : decode b_C_isEmpty 4 = .ok (.iconst (-1), 1) := by decide +kernel
theorem d_C_isEmpty_5 : decode b_C_isEmpty 5 = .ok (.if_icmp .ne 7, 3) := by decide +kernel
theorem d_C_isEmpty_8 : decode b_C_isEmpty 8 = .ok (.iconst 1, 1) := by decide +kernel
theorem d_C_isEmpty_9 : decode b_C_isEmpty 9 = .ok (.goto 4, 3) := by decide +kernel
theorem d_C_isEmpty_12 : decode b_C_isEmpty 12 = .ok (.iconst 0, 1) := by decide +kernel
theorem d_C_isEmpty_13 : decode b_C_isEmpty 13 = .ok (.ireturn, 1) := by decide +kernel
end
section
theorem d_C_learn_0 : decode b_C_learn 0 = .ok (.aload_n 0, 1) := by decide +kernel
theorem d_C_learn_1 : decode b_C_learn 1 = .ok (.iload_n 1, 1) := by decide +kernel
theorem d_C_learn_2 : decode b_C_learn 2 = .ok (.putfield 15, 3) := by decide +kernel
theorem d_C_learn_5 : decode b_C_learn 5 = .ok (.aload_n 0, 1) := by decide +kernel
theorem d_C_learn_6 : decode b_C_learn 6 = .ok (.getfield 9, 3) := by decide +kernel
theorem d_C_learn_9 : decode b_C_learn 9 = .ok (.iconst 0, 1) := by decide +kernel
theorem d_C_learn_10 : decode b_C_learn 10 = .ok (.invokestatic 19, 3) := by decide +kernel
theorem d_C_learn_13 : decode b_C_learn 13 = .ok (.iconst 0, 1) := by decide +kernel
theorem d_C_learn_14 : decode b_C_learn 14 = .ok (.istore 4, 2) := by decide +kernel
theorem d_C_learn_16 : decode b_C_learn 16 = .ok (.iload 4, 2) := by decide +kernel
theorem d_C_learn_18 : decode b_C_learn 18 = .ok (.aload_n 3, 1) := by decide +kernel
theorem d_C_learn_19 : decode b_C_learn 19 = .ok (.getfield 25, 3) := by decide +kernel
theorem d_C_learn_22 : decode b_C_learn 22 = .ok (.if_icmp .ge 23, 3) := by decide +kernel
theorem d_C_learn_25 : decode b_C_learn 25 = .ok (.aload_n 2, 1) := by decide +kernel
theorem d_C_learn_26 : decode b_C_learn 26 = .ok (.iload 4, 2) := by decide +kernel
theorem d_C_learn_28 : decode b_C_learn 28 = .ok (.baload, 1) := by decide +kernel
theorem d_C_learn_29 : decode b_C_learn 29 = .ok (.ifCond .eq 10, 3) := by decide +kernel
theorem d_C_learn_32 : decode b_C_learn 32 = .ok (.aload_n 0, 1) := by decide +kernel
theorem d_C_learn_33 : decode b_C_learn 33 = .ok (.iload 4, 2) := by decide +kernel
theorem d_C_learn_35 : decode b_C_learn 35 = .ok (.aload_n 3, 1) := by decide +kernel
theorem d_C_learn_36 : decode b_C_learn 36 = .ok (.invokevirtual 30, 3) := by decide +kernel
theorem d_C_learn_39 : decode b_C_learn 39 = .ok (.iinc 4 1, 3) := by decide +kernel
theorem d_C_learn_42 : decode b_C_learn 42 = .ok (.goto (-26), 3) := by decide +kernel
theorem d_C_learn_45 : decode b_C_learn 45 = .ok (.return_, 1) := by decide +kernel
theorem d_C_rise_0 : decode b_C_rise 0 = .ok (.iconst 0, 1) := by decide +kernel
theorem d_C_rise_1 : decode b_C_rise 1 = .ok (.istore_n 3, 1) := by decide +kernel
theorem d_C_rise_2 : decode b_C_rise 2 = .ok (.iload_n 3, 1) := by decide +kernel
theorem d_C_rise_3 : decode b_C_rise 3 = .ok (.iconst 5, 1) := by decide +kernel
theorem d_C_rise_4 : decode b_C_rise 4 = .ok (.if_icmp .ge 30, 3) := by decide +kernel
theorem d_C_rise_7 : decode b_C_rise 7 = .ok (.aload_n 0, 1) := by decide +kernel
theorem d_C_rise_8 : decode b_C_rise 8 = .ok (.getfield 9, 3) := by decide +kernel
theorem d_C_rise_11 : decode b_C_rise 11 = .ok (.iload_n 3, 1) := by decide +kernel
theorem d_C_rise_12 : decode b_C_rise 12 = .ok (.aload_n 0, 1) := by decide +kernel
theorem d_C_rise_13 : decode b_C_rise 13 = .ok (.getfield 9, 3) := by decide +kernel
theorem d_C_rise_16 : decode b_C_rise 16 = .ok (.iload_n 3, 1) := by decide +kernel
theorem d_C_rise_17 : decode b_C_rise 17 = .ok (.iaload, 1) := by decide +kernel
theorem d_C_rise_18 : decode b_C_rise 18 = .ok (.aload_n 2, 1) := by decide +kernel
theorem d_C_rise_19 : decode b_C_rise 19 = .ok (.iload_n 1, 1) := by decide +kernel
theorem d_C_rise_20 : decode b_C_rise 20 = .ok (.iload_n 3, 1) := by decide +kernel
theorem d_C_rise_21 : decode b_C_rise 21 = .ok (.invokevirtual 34, 3) := by decide +kernel
theorem d_C_rise_24 : decode b_C_rise 24 = .ok (.invokestatic 38, 3) := by decide +kernel
theorem d_C_rise_27 : decode b_C_rise 27 = .ok (.iastore, 1) := by decide +kernel
theorem d_C_rise_28 : decode b_C_rise 28 = .ok (.iinc 3 1, 3) := by decide +kernel
theorem d_C_rise_31 : decode b_C_rise 31 = .ok (.goto (-29), 3) := by decide +kernel
theorem d_C_rise_34 : decode b_C_rise 34 = .ok (.return_, 1) := by decide +kernel
end
section
theorem d_V_init_0 : decode b_V_init 0 = .ok (.aload_n 0, 1) := by decide +kernel
theorem d_V_init_1 : decode b_V_init 1 = .ok (.invokespecial 1, 3) := by decide +kernel
theorem d_V_init_4 : decode b_V_init 4 = .ok (.iconst 1, 1) := by decide +kernel
theorem d_V_init_5 : decode b_V_init 5 = .ok (.iload_n 1, 1) := by decide +kernel
theorem d_V_init_6 : decode b_V_init 6 = .ok (.iconst 3, 1) := by decide +kernel
theorem d_V_init_7 : decode b_V_init 7 = .ok (.iand, 1) := by decide +kernel
theorem d_V_init_8 : decode b_V_init 8 = .ok (.iadd, 1) := by decide +kernel
theorem d_V_init_9 : decode b_V_init 9 = .ok (.iconst 3, 1) := by decide +kernel
theorem d_V_init_10 : decode b_V_init 10 = .ok (.invokestatic 7, 3) := by decide +kernel
theorem d_V_init_13 : decode b_V_init 13 = .ok (.istore 4, 2) := by decide +kernel
theorem d_V_init_15 : decode b_V_init 15 = .ok (.aload_n 0, 1) := by decide +kernel
theorem d_V_init_16 : decode b_V_init 16 = .ok (.new 13, 3) := by decide +kernel
theorem d_V_init_19 : decode b_V_init 19 = .ok (.dup, 1) := by decide +kernel
theorem d_V_init_20 : decode b_V_init 20 = .ok (.iload 4, 2) := by decide +kernel
theorem d_V_init_22 : decode b_V_init 22 = .ok (.invokespecial 15, 3) := by decide +kernel
theorem d_V_init_25 : decode b_V_init 25 = .ok (.putfield 18, 3) := by decide +kernel
theorem d_V_init_28 : decode b_V_init 28 = .ok (.aload_n 0, 1) := by decide +kernel
theorem d_V_init_29 : decode b_V_init 29 = .ok (.iconst 1, 1) := by decide +kernel
theorem d_V_init_30 : decode b_V_init 30 = .ok (.iload_n 2, 1) := by decide +kernel
theorem d_V_init_31 : decode b_V_init 31 = .ok (.iconst 3, 1) := by decide +kernel
theorem d_V_init_32 : decode b_V_init 32 = .ok (.iand, 1) := by decide +kernel
theorem d_V_init_33 : decode b_V_init 33 = .ok (.iadd, 1) := by decide +kernel
theorem d_V_init_34 : decode b_V_init 34 = .ok (.iload 4, 2) := by decide +kernel
theorem d_V_init_36 : decode b_V_init 36 = .ok (.invokestatic 7, 3) := by decide +kernel
theorem d_V_init_39 : decode b_V_init 39 = .ok (.putfield 24, 3) := by decide +kernel
theorem d_V_init_42 : decode b_V_init 42 = .ok (.aload_n 0, 1) := by decide +kernel
theorem d_V_init_43 : decode b_V_init 43 = .ok (.iconst 1, 1) := by decide +kernel
theorem d_V_init_44 : decode b_V_init 44 = .ok (.iload_n 3, 1) := by decide +kernel
theorem d_V_init_45 : decode b_V_init 45 = .ok (.iconst 3, 1) := by decide +kernel
theorem d_V_init_46 : decode b_V_init 46 = .ok (.iand, 1) := by decide +kernel
theorem d_V_init_47 : decode b_V_init 47 = .ok (.iadd, 1) := by decide +kernel
theorem d_V_init_48 : decode b_V_init 48 = .ok (.iload 4, 2) := by decide +kernel
theorem d_V_init_50 : decode b_V_init 50 = .ok (.invokestatic 7, 3) := by decide +kernel
theorem d_V_init_53 : decode b_V_init 53 = .ok (.putfield 28, 3) := by decide +kernel
theorem d_V_init_56 : decode b_V_init 56 = .ok (.aload_n 0, 1) := by decide +kernel
theorem d_V_init_57 : decode b_V_init 57 = .ok (.new 31, 3) := by decide +kernel
theorem d_V_init_60 : decode b_V_init 60 = .ok (.dup, 1) := by decide +kernel
theorem d_V_init_61 : decode b_V_init 61 = .ok (.invokespecial 33, 3) := by decide +kernel
theorem d_V_init_64 : decode b_V_init 64 = .ok (.putfield 34, 3) := by decide +kernel
theorem d_V_init_67 : decode b_V_init 67 = .ok (.aload_n 0, 1) := by decide +kernel
theorem d_V_init_68 : decode b_V_init 68 = .ok (.iconst 5, 1) := by decide +kernel
theorem d_V_init_69 : decode b_V_init 69 = .ok (.anewarray 38, 3) := by decide +kernel
theorem d_V_init_72 : decode b_V_init 72 = .ok (.putfield 40, 3) := by decide +kernel
theorem d_V_init_75 : decode b_V_init 75 = .ok (.iconst 0, 1) := by decide +kernel
theorem d_V_init_76 : decode b_V_init 76 = .ok (.istore 5, 2) := by decide +kernel
theorem d_V_init_78 : decode b_V_init 78 = .ok (.iload 5, 2) := by decide +kernel
theorem d_V_init_80 : decode b_V_init 80 = .ok (.iconst 5, 1) := by decide +kernel
theorem d_V_init_81 : decode b_V_init 81 = .ok (.if_icmp .ge 27, 3) := by decide +kernel
theorem d_V_init_84 : decode b_V_init 84 = .ok (.aload_n 0, 1) := by decide +kernel
theorem d_V_init_85 : decode b_V_init 85 = .ok (.getfield 40, 3) := by decide +kernel
theorem d_V_init_88 : decode b_V_init 88 = .ok (.iload 5, 2) := by decide +kernel
theorem d_V_init_90 : decode b_V_init 90 = .ok (.new 38, 3) := by decide +kernel
theorem d_V_init_93 : decode b_V_init 93 = .ok (.dup, 1) := by decide +kernel
theorem d_V_init_94 : decode b_V_init 94 = .ok (.aload_n 0, 1) := by decide +kernel
theorem d_V_init_95 : decode b_V_init 95 = .ok (.getfield 34, 3) := by decide +kernel
theorem d_V_init_98 : decode b_V_init 98 = .ok (.invokespecial 44, 3) := by decide +kernel
theorem d_V_init_101 : decode b_V_init 101 = .ok (.aastore, 1) := by decide +kernel
theorem d_V_init_102 : decode b_V_init 102 = .ok (.iinc 5 1, 3) := by decide +kernel
theorem d_V_init_105 : decode b_V_init 105 = .ok (.goto (-27), 3) := by decide +kernel
theorem d_V_init_108 : decode b_V_init 108 = .ok (.aload_n 0, 1) := by decide +kernel
theorem d_V_init_109 : decode b_V_init 109 = .ok (.iconst 4, 1) := by decide +kernel
theorem d_V_init_110 : decode b_V_init 110 = .ok (.anewarray 47, 3) := by decide +kernel
theorem d_V_init_113 : decode b_V_init 113 = .ok (.putfield 49, 3) := by decide +kernel
theorem d_V_init_116 : decode b_V_init 116 = .ok (.iconst 0, 1) := by decide +kernel
theorem d_V_init_117 : decode b_V_init 117 = .ok (.istore 5, 2) := by decide +kernel
theorem d_V_init_119 : decode b_V_init 119 = .ok (.iload 5, 2) := by decide +kernel
theorem d_V_init_121 : decode b_V_init 121 = .ok (.iconst 4, 1) := by decide +kernel
theorem d_V_init_122 : decode b_V_init 122 = .ok (.if_icmp .ge 23, 3) := by decide +kernel
theorem d_V_init_125 : decode b_V_init 125 = .ok (.aload_n 0, 1) := by decide +kernel
theorem d_V_init_126 : decode b_V_init 126 = .ok (.getfield 49, 3) := by decide +kernel
theorem d_V_init_129 : decode b_V_init 129 = .ok (.iload 5, 2) := by decide +kernel
theorem d_V_init_131 : decode b_V_init 131 = .ok (.new 47, 3) := by decide +kernel
theorem d_V_init_134 : decode b_V_init 134 = .ok (.dup, 1) := by decide +kernel
theorem d_V_init_135 : decode b_V_init 135 = .ok (.invokespecial 53, 3) := by decide +kernel
theorem d_V_init_138 : decode b_V_init 138 = .ok (.aastore, 1) := by decide +kernel
theorem d_V_init_139 : decode b_V_init 139 = .ok (.iinc 5 1, 3) := by decide +kernel
theorem d_V_init_142 : decode b_V_init 142 = .ok (.goto (-23), 3) := by decide +kernel
theorem d_V_init_145 : decode b_V_init 145 = .ok (.aload_n 0, 1) := by decide +kernel
theorem d_V_init_146 : decode b_V_init 146 = .ok (.bipush 25, 2) := by decide +kernel
theorem d_V_init_148 : decode b_V_init 148 = .ok (.newarray .boolean, 2) := by decide +kernel
theorem d_V_init_150 : decode b_V_init 150 = .ok (.putfield 54, 3) := by decide +kernel
theorem d_V_init_153 : decode b_V_init 153 = .ok (.aload_n 0, 1) := by decide +kernel
theorem d_V_init_154 : decode b_V_init 154 = .ok (.bipush 40, 2) := by decide +kernel
theorem d_V_init_156 : decode b_V_init 156 = .ok (.newarray .boolean, 2) := by decide +kernel
theorem d_V_init_158 : decode b_V_init 158 = .ok (.putfield 58, 3) := by decide +kernel
theorem d_V_init_161 : decode b_V_init 161 = .ok (.aload_n 0, 1) := by decide +kernel
theorem d_V_init_162 : decode b_V_init 162 = .ok (.iconst 5, 1) := by decide +kernel
theorem d_V_init_163 : decode b_V_init 163 = .ok (.newarray .int, 2) := by decide +kernel
theorem d_V_init_165 : decode b_V_init 165 = .ok (.putfield 61, 3) := by decide +kernel
theorem d_V_init_168 : decode b_V_init 168 = .ok (.aload_n 0, 1) := by decide +kernel
theorem d_V_init_169 : decode b_V_init 169 = .ok (.bipush 40, 2) := by decide +kernel
theorem d_V_init_171 : decode b_V_init 171 = .ok (.newarray .boolean, 2) := by decide +kernel
theorem d_V_init_173 : decode b_V_init 173 = .ok (.putfield 65, 3) := by decide +kernel
theorem d_V_init_176 : decode b_V_init 176 = .ok (.aload_n 0, 1) := by decide +kernel
theorem d_V_init_177 : decode b_V_init 177 = .ok (.bipush 40, 2) := by decide +kernel
theorem d_V_init_179 : decode b_V_init 179 = .ok (.newarray .boolean, 2) := by decide +kernel
theorem d_V_init_181 : decode b_V_init 181 = .ok (.putfield 68, 3) := by decide +kernel
theorem d_V_init_184 : decode b_V_init 184 = .ok (.aload_n 0, 1) := by decide +kernel
theorem d_V_init_185 : decode b_V_init 185 = .ok (.bipush 40, 2) := by decide +kernel
theorem d_V_init_187 : decode b_V_init 187 = .ok (.newarray .boolean, 2) := by decide +kernel
theorem d_V_init_189 : decode b_V_init 189 = .ok (.putfield 71, 3) := by decide +kernel
theorem d_V_init_192 : decode b_V_init 192 = .ok (.aload_n 0, 1) := by decide +kernel
theorem d_V_init_193 : decode b_V_init 193 = .ok (.bipush 32, 2) := by decide +kernel
theorem d_V_init_195 : decode b_V_init 195 = .ok (.newarray .boolean, 2) := by decide +kernel
theorem d_V_init_197 : decode b_V_init 197 = .ok (.putfield 74, 3) := by decide +kernel
theorem d_V_init_200 : decode b_V_init 200 = .ok (.return_, 1) := by decide +kernel
theorem d_V_token_0 : decode b_V_token 0 = .ok (.iload_n 1, 1) := by decide +kernel
theorem d_V_token_1 : decode b_V_token 1 = .ok (.invokestatic 77, 3) := by decide +kernel
theorem d_V_token_4 : decode b_V_token 4 = .ok (.ifCond .eq 23, 3) := by decide +kernel
theorem d_V_token_7 : decode b_V_token 7 = .ok (.iload_n 2, 1) := by decide +kernel
theorem d_V_token_8 : decode b_V_token 8 = .ok (.invokestatic 81, 3) := by decide +kernel
theorem d_V_token_11 : decode b_V_token 11 = .ok (.ifCond .eq 16, 3) := by decide +kernel
theorem d_V_token_14 : decode b_V_token 14 = .ok (.aload_n 0, 1) := by decide +kernel
theorem d_V_token_15 : decode b_V_token 15 = .ok (.getfield 18, 3) := by decide +kernel
theorem d_V_token_18 : decode b_V_token 18 = .ok (.getfield 84, 3) := by decide +kernel
theorem d_V_token_21 : decode b_V_token 21 = .ok (.iload_n 2, 1) := by decide +kernel
theorem d_V_token_22 : decode b_V_token 22 = .ok (.iaload, 1) := by decide +kernel
theorem d_V_token_23 : decode b_V_token 23 = .ok (.iconst (-1), 1) := by decide +kernel
theorem d_V_token_24 : decode b_V_token 24 = .ok (.if_icmp .eq 5, 3) := by decide +kernel
theorem d_V_token_27 : decode b_V_token 27 = .ok (.iconst 0, 1) := by decide +kernel
theorem d_V_token_28 : decode b_V_token 28 = .ok (.ireturn, 1) := by decide +kernel
theorem d_V_token_29 : decode b_V_token 29 = .ok (.aload_n 0, 1) := by decide +kernel
theorem d_V_token_30 : decode b_V_token 30 = .ok (.getfield 18, 3) := by decide +kernel
theorem d_V_token_33 : decode b_V_token 33 = .ok (.getfield 84, 3) := by decide +kernel
theorem d_V_token_36 : decode b_V_token 36 = .ok (.iload_n 2, 1) := by decide +kernel
theorem d_V_token_37 : decode b_V_token 37 = .ok (.iload_n 1, 1) := by decide +kernel
theorem d_V_token_38 : decode b_V_token 38 = .ok (.iastore, 1) := by decide +kernel
theorem d_V_token_39 : decode b_V_token 39 = .ok (.iconst 1, 1) := by decide +kernel
theorem d_V_token_40 : decode b_V_token 40 = .ok (.ireturn, 1) := by decide +kernel
theorem d_V_remove_0 : decode b_V_remove 0 = .ok (.iload_n 1, 1) := by decide +kernel
theorem d_V_remove_1 : decode b_V_remove 1 = .ok (.invokestatic 81, 3) := by decide +kernel
theorem d_V_remove_4 : decode b_V_remove 4 = .ok (.ifCond .eq 16, 3) := by decide +kernel
theorem d_V_remove_7 : decode b_V_remove 7 = .ok (.aload_n 0, 1) := by decide +kernel
theorem d_V_remove_8 : decode b_V_remove 8 = .ok (.getfield 18, 3) := by decide +kernel
theorem d_V_remove_11 : decode b_V_remove 11 = .ok (.getfield 84, 3) := by decide +kernel
theorem d_V_remove_14 : decode b_V_remove 14 = .ok (.iload_n 1, 1) := by decide +kernel
theorem d_V_remove_15 : decode b_V_remove 15 = .ok (.iaload, 1) := by decide +kernel
theorem d_V_remove_16 : decode b_V_remove 16 = .ok (.iconst (-1), 1) := by decide +kernel
theorem d_V_remove_17 : decode b_V_remove 17 = .ok (.if_icmp .ne 5, 3) := by decide +kernel
theorem d_V_remove_20 : decode b_V_remove 20 = .ok (.iconst 0, 1) := by decide +kernel
theorem d_V_remove_21 : decode b_V_remove 21 = .ok (.ireturn, 1) := by decide +kernel
theorem d_V_remove_22 : decode b_V_remove 22 = .ok (.aload_n 0, 1) := by decide +kernel
theorem d_V_remove_23 : decode b_V_remove 23 = .ok (.getfield 18, 3) := by decide +kernel
theorem d_V_remove_26 : decode b_V_remove 26 = .ok (.getfield 84, 3) := by decide +kernel
theorem d_V_remove_29 : decode b_V_remove 29 = .ok (.iload_n 1, 1) := by decide +kernel
theorem d_V_remove_30 : decode b_V_remove 30 = .ok (.iconst (-1), 1) := by decide +kernel
theorem d_V_remove_31 : decode b_V_remove 31 = .ok (.iastore, 1) := by decide +kernel
theorem d_V_remove_32 : decode b_V_remove 32 = .ok (.iconst 1, 1) := by decide +kernel
theorem d_V_remove_33 : decode b_V_remove 33 = .ok (.ireturn, 1) := by decide +kernel
theorem d_V_power_0 : decode b_V_power 0 = .ok (.iload_n 1, 1) := by decide +kernel
theorem d_V_power_1 : decode b_V_power 1 = .ok (.invokestatic 77, 3) := by decide +kernel
theorem d_V_power_4 : decode b_V_power 4 = .ok (.ifCond .eq 16, 3) := by decide +kernel
theorem d_V_power_7 : decode b_V_power 7 = .ok (.aload_n 0, 1) := by decide +kernel
theorem d_V_power_8 : decode b_V_power 8 = .ok (.getfield 40, 3) := by decide +kernel
theorem d_V_power_11 : decode b_V_power 11 = .ok (.iload_n 1, 1) := by decide +kernel
theorem d_V_power_12 : decode b_V_power 12 = .ok (.aaload, 1) := by decide +kernel
theorem d_V_power_13 : decode b_V_power 13 = .ok (.getfield 87, 3) := by decide +kernel
theorem d_V_power_16 : decode b_V_power 16 = .ok (.iload_n 2, 1) := by decide +kernel
theorem d_V_power_17 : decode b_V_power 17 = .ok (.if_icmp .ne 5, 3) := by decide +kernel
theorem d_V_power_20 : decode b_V_power 20 = .ok (.iconst 0, 1) := by decide +kernel
theorem d_V_power_21 : decode b_V_power 21 = .ok (.ireturn, 1) := by decide +kernel
theorem d_V_power_22 : decode b_V_power 22 = .ok (.aload_n 0, 1) := by decide +kernel
theorem d_V_power_23 : decode b_V_power 23 = .ok (.getfield 40, 3) := by decide +kernel
theorem d_V_power_26 : decode b_V_power 26 = .ok (.iload_n 1, 1) := by decide +kernel
theorem d_V_power_27 : decode b_V_power 27 = .ok (.aaload, 1) := by decide +kernel
theorem d_V_power_28 : decode b_V_power 28 = .ok (.iload_n 2, 1) := by decide +kernel
theorem d_V_power_29 : decode b_V_power 29 = .ok (.putfield 87, 3) := by decide +kernel
theorem d_V_power_32 : decode b_V_power 32 = .ok (.iconst 1, 1) := by decide +kernel
theorem d_V_power_33 : decode b_V_power 33 = .ok (.ireturn, 1) := by decide +kernel
theorem d_V_cut_0 : decode b_V_cut 0 = .ok (.iload_n 1, 1) := by decide +kernel
theorem d_V_cut_1 : decode b_V_cut 1 = .ok (.iload_n 2, 1) := by decide +kernel
theorem d_V_cut_2 : decode b_V_cut 2 = .ok (.invokestatic 91, 3) := by decide +kernel
theorem d_V_cut_5 : decode b_V_cut 5 = .ok (.ifCond .eq 17, 3) := by decide +kernel
theorem d_V_cut_8 : decode b_V_cut 8 = .ok (.aload_n 0, 1) := by decide +kernel
theorem d_V_cut_9 : decode b_V_cut 9 = .ok (.getfield 54, 3) := by decide +kernel
theorem d_V_cut_12 : decode b_V_cut 12 = .ok (.iload_n 1, 1) := by decide +kernel
theorem d_V_cut_13 : decode b_V_cut 13 = .ok (.iload_n 2, 1) := by decide +kernel
theorem d_V_cut_14 : decode b_V_cut 14 = .ok (.invokestatic 95, 3) := by decide +kernel
theorem d_V_cut_17 : decode b_V_cut 17 = .ok (.baload, 1) := by decide +kernel
theorem d_V_cut_18 : decode b_V_cut 18 = .ok (.iload_n 3, 1) := by decide +kernel
theorem d_V_cut_19 : decode b_V_cut 19 = .ok (.if_icmp .ne 5, 3) := by decide +kernel
theorem d_V_cut_22 : decode b_V_cut 22 = .ok (.iconst 0, 1) := by decide +kernel
theorem d_V_cut_23 : decode b_V_cut 23 = .ok (.ireturn, 1) := by decide +kernel
theorem d_V_cut_24 : decode b_V_cut 24 = .ok (.aload_n 0, 1) := by decide +kernel
theorem d_V_cut_25 : decode b_V_cut 25 = .ok (.getfield 54, 3) := by decide +kernel
theorem d_V_cut_28 : decode b_V_cut 28 = .ok (.iload_n 1, 1) := by decide +kernel
theorem d_V_cut_29 : decode b_V_cut 29 = .ok (.iload_n 2, 1) := by decide +kernel
theorem d_V_cut_30 : decode b_V_cut 30 = .ok (.invokestatic 95, 3) := by decide +kernel
theorem d_V_cut_33 : decode b_V_cut 33 = .ok (.iload_n 3, 1) := by decide +kernel
theorem d_V_cut_34 : decode b_V_cut 34 = .ok (.bastore, 1) := by decide +kernel
theorem d_V_cut_35 : decode b_V_cut 35 = .ok (.iconst 1, 1) := by decide +kernel
theorem d_V_cut_36 : decode b_V_cut 36 = .ok (.ireturn, 1) := by decide +kernel
theorem d_V_put_0 : decode b_V_put 0 = .ok (.iload_n 1, 1) := by decide +kernel
theorem d_V_put_1 : decode b_V_put 1 = .ok (.invokestatic 77, 3) := by decide +kernel
theorem d_V_put_4 : decode b_V_put 4 = .ok (.ifCond .eq 20, 3) := by decide +kernel
theorem d_V_put_7 : decode b_V_put 7 = .ok (.iload_n 2, 1) := by decide +kernel
theorem d_V_put_8 : decode b_V_put 8 = .ok (.invokestatic 98, 3) := by decide +kernel
theorem d_V_put_11 : decode b_V_put 11 = .ok (.ifCond .eq 13, 3) := by decide +kernel
theorem d_V_put_14 : decode b_V_put 14 = .ok (.aload_n 0, 1) := by decide +kernel
theorem d_V_put_15 : decode b_V_put 15 = .ok (.iload 4, 2) := by decide +kernel
theorem d_V_put_17 : decode b_V_put 17 = .ok (.iload_n 2, 1) := by decide +kernel
theorem d_V_put_18 : decode b_V_put 18 = .ok (.invokevirtual 101, 3) := by decide +kernel
theorem d_V_put_21 : decode b_V_put 21 = .ok (.ifCond .ne 5, 3) := by decide +kernel
theorem d_V_put_24 : decode b_V_put 24 = .ok (.iconst (-1), 1) := by decide +kernel
theorem d_V_put_25 : decode b_V_put 25 = .ok (.ireturn, 1) := by decide +kernel
theorem d_V_put_26 : decode b_V_put 26 = .ok (.aload_n 0, 1) := by decide +kernel
theorem d_V_put_27 : decode b_V_put 27 = .ok (.getfield 40, 3) := by decide +kernel
theorem d_V_put_30 : decode b_V_put 30 = .ok (.iload_n 1, 1) := by decide +kernel
theorem d_V_put_31 : decode b_V_put 31 = .ok (.aaload, 1) := by decide +kernel
theorem d_V_put_32 : decode b_V_put 32 = .ok (.getfield 87, 3) := by decide +kernel
theorem d_V_put_35 : decode b_V_put 35 = .ok (.ifCond .ne 6, 3) := by decide +kernel
theorem d_V_put_38 : decode b_V_put 38 = .ok (.bipush (-2), 2) := by decide +kernel
theorem d_V_put_40 : decode b_V_put 40 = .ok (.ireturn, 1) := by decide +kernel
theorem d_V_put_41 : decode b_V_put 41 = .ok (.aload_n 0, 1) := by decide +kernel
theorem d_V_put_42 : decode b_V_put 42 = .ok (.getfield 34, 3) := by decide +kernel
theorem d_V_put_45 : decode b_V_put 45 = .ok (.getfield 104, 3) := by decide +kernel
theorem d_V_put_48 : decode b_V_put 48 = .ok (.bipush 40, 2) := by decide +kernel
theorem d_V_put_50 : decode b_V_put 50 = .ok (.if_icmp .lt 6, 3) := by decide +kernel
theorem d_V_put_53 : decode b_V_put 53 = .ok (.bipush (-3), 2) := by decide +kernel
theorem d_V_put_55 : decode b_V_put 55 = .ok (.ireturn, 1) := by decide +kernel
theorem d_V_put_56 : decode b_V_put 56 = .ok (.aload_n 0, 1) := by decide +kernel
theorem d_V_put_57 : decode b_V_put 57 = .ok (.iload_n 1, 1) := by decide +kernel
theorem d_V_put_58 : decode b_V_put 58 = .ok (.iload_n 2, 1) := by decide +kernel
theorem d_V_put_59 : decode b_V_put 59 = .ok (.invokevirtual 107, 3) := by decide +kernel
theorem d_V_put_62 : decode b_V_put 62 = .ok (.aload_n 0, 1) := by decide +kernel
theorem d_V_put_63 : decode b_V_put 63 = .ok (.getfield 111, 3) := by decide +kernel
theorem d_V_put_66 : decode b_V_put 66 = .ok (.aload_n 0, 1) := by decide +kernel
theorem d_V_put_67 : decode b_V_put 67 = .ok (.getfield 28, 3) := by decide +kernel
theorem d_V_put_70 : decode b_V_put 70 = .ok (.if_icmp .ge 6, 3) := by decide +kernel
theorem d_V_put_73 : decode b_V_put 73 = .ok (.bipush (-4), 2) := by decide +kernel
theorem d_V_put_75 : decode b_V_put 75 = .ok (.ireturn, 1) := by decide +kernel
theorem d_V_put_76 : decode b_V_put 76 = .ok (.iload 4, 2) := by decide +kernel
theorem d_V_put_78 : decode b_V_put 78 = .ok (.iconst (-1), 1) := by decide +kernel
theorem d_V_put_79 : decode b_V_put 79 = .ok (.if_icmp .ne 9, 3) := by decide +kernel
theorem d_V_put_82 : decode b_V_put 82 = .ok (.getstatic 114, 3) := by decide +kernel
theorem d_V_put_85 : decode b_V_put 85 = .ok (.goto 13, 3) := by decide +kernel
theorem d_V_put_88 : decode b_V_put 88 = .ok (.aload_n 0, 1) := by decide +kernel
theorem d_V_put_89 : decode b_V_put 89 = .ok (.getfield 49, 3) := by decide +kernel
theorem d_V_put_92 : decode b_V_put 92 = .ok (.iload 4, 2) := by decide +kernel
theorem d_V_put_94 : decode b_V_put 94 = .ok (.aaload, 1) := by decide +kernel
theorem d_V_put_95 : decode b_V_put 95 = .ok (.getfield 117, 3) := by decide +kernel
theorem d_V_put_98 : decode b_V_put 98 = .ok (.astore 5, 2) := by decide +kernel
theorem d_V_put_100 : decode b_V_put 100 = .ok (.aload_n 0, 1) := by decide +kernel
theorem d_V_put_101 : decode b_V_put 101 = .ok (.getfield 34, 3) := by decide +kernel
theorem d_V_put_104 : decode b_V_put 104 = .ok (.iload_n 2, 1) := by decide +kernel
theorem d_V_put_105 : decode b_V_put 105 = .ok (.iload_n 3, 1) := by decide +kernel
theorem d_V_put_106 : decode b_V_put 106 = .ok (.iload_n 1, 1) := by decide +kernel
theorem d_V_put_107 : decode b_V_put 107 = .ok (.aload 5, 2) := by decide +kernel
theorem d_V_put_109 : decode b_V_put 109 = .ok (.invokevirtual 120, 3) := by decide +kernel
theorem d_V_put_112 : decode b_V_put 112 = .ok (.istore 6, 2) := by decide +kernel
theorem d_V_put_114 : decode b_V_put 114 = .ok (.aload_n 0, 1) := by decide +kernel
theorem d_V_put_115 : decode b_V_put 115 = .ok (.iload 6, 2) := by decide +kernel
theorem d_V_put_117 : decode b_V_put 117 = .ok (.invokevirtual 124, 3) := by decide +kernel
theorem d_V_put_120 : decode b_V_put 120 = .ok (.aload_n 0, 1) := by decide +kernel
theorem d_V_put_121 : decode b_V_put 121 = .ok (.iload_n 1, 1) := by decide +kernel
theorem d_V_put_122 : decode b_V_put 122 = .ok (.iload 6, 2) := by decide +kernel
theorem d_V_put_124 : decode b_V_put 124 = .ok (.invokevirtual 127, 3) := by decide +kernel
theorem d_V_put_127 : decode b_V_put 127 = .ok (.iload 6, 2) := by decide +kernel
theorem d_V_put_129 : decode b_V_put 129 = .ok (.ireturn, 1) := by decide +kernel
theorem d_V_get_0 : decode b_V_get 0 = .ok (.iload_n 1, 1) := by decide +kernel
theorem d_V_get_1 : decode b_V_get 1 = .ok (.invokestatic 77, 3) := by decide +kernel
theorem d_V_get_4 : decode b_V_get 4 = .ok (.ifCond .eq 17, 3) := by decide +kernel
theorem d_V_get_7 : decode b_V_get 7 = .ok (.iload_n 2, 1) := by decide +kernel
theorem d_V_get_8 : decode b_V_get 8 = .ok (.invokestatic 98, 3) := by decide +kernel
theorem d_V_get_11 : decode b_V_get 11 = .ok (.ifCond .eq 10, 3) := by decide +kernel
theorem d_V_get_14 : decode b_V_get 14 = .ok (.iload_n 3, 1) := by decide +kernel
theorem d_V_get_15 : decode b_V_get 15 = .ok (.invokestatic 130, 3) := by decide +kernel
theorem d_V_get_18 : decode b_V_get 18 = .ok (.ifCond .ne 5, 3) := by decide +kernel
theorem d_V_get_21 : decode b_V_get 21 = .ok (.iconst (-1), 1) := by decide +kernel
theorem d_V_get_22 : decode b_V_get 22 = .ok (.ireturn, 1) := by decide +kernel
theorem d_V_get_23 : decode b_V_get 23 = .ok (.aload_n 0, 1) := by decide +kernel
theorem d_V_get_24 : decode b_V_get 24 = .ok (.getfield 40, 3) := by decide +kernel
theorem d_V_get_27 : decode b_V_get 27 = .ok (.iload_n 1, 1) := by decide +kernel
theorem d_V_get_28 : decode b_V_get 28 = .ok (.aaload, 1) := by decide +kernel
theorem d_V_get_29 : decode b_V_get 29 = .ok (.getfield 87, 3) := by decide +kernel
theorem d_V_get_32 : decode b_V_get 32 = .ok (.ifCond .ne 6, 3) := by decide +kernel
theorem d_V_get_35 : decode b_V_get 35 = .ok (.bipush (-2), 2) := by decide +kernel
theorem d_V_get_37 : decode b_V_get 37 = .ok (.ireturn, 1) := by decide +kernel
theorem d_V_get_38 : decode b_V_get 38 = .ok (.aload_n 0, 1) := by decide +kernel
theorem d_V_get_39 : decode b_V_get 39 = .ok (.iload_n 1, 1) := by decide +kernel
theorem d_V_get_40 : decode b_V_get 40 = .ok (.iload_n 2, 1) := by decide +kernel
theorem d_V_get_41 : decode b_V_get 41 = .ok (.invokevirtual 107, 3) := by decide +kernel
theorem d_V_get_44 : decode b_V_get 44 = .ok (.aload_n 0, 1) := by decide +kernel
theorem d_V_get_45 : decode b_V_get 45 = .ok (.getfield 111, 3) := by decide +kernel
theorem d_V_get_48 : decode b_V_get 48 = .ok (.aload_n 0, 1) := by decide +kernel
theorem d_V_get_49 : decode b_V_get 49 = .ok (.getfield 24, 3) := by decide +kernel
theorem d_V_get_52 : decode b_V_get 52 = .ok (.if_icmp .ge 6, 3) := by decide +kernel
theorem d_V_get_55 : decode b_V_get 55 = .ok (.bipush (-3), 2) := by decide +kernel
theorem d_V_get_57 : decode b_V_get 57 = .ok (.ireturn, 1) := by decide +kernel
theorem d_V_get_58 : decode b_V_get 58 = .ok (.aload_n 0, 1) := by decide +kernel
theorem d_V_get_59 : decode b_V_get 59 = .ok (.iload_n 2, 1) := by decide +kernel
theorem d_V_get_60 : decode b_V_get 60 = .ok (.invokevirtual 133, 3) := by decide +kernel
theorem d_V_get_63 : decode b_V_get 63 = .ok (.aload_n 0, 1) := by decide +kernel
theorem d_V_get_64 : decode b_V_get 64 = .ok (.invokevirtual 136, 3) := by decide +kernel
theorem d_V_get_67 : decode b_V_get 67 = .ok (.istore 4, 2) := by decide +kernel
theorem d_V_get_69 : decode b_V_get 69 = .ok (.aload_n 0, 1) := by decide +kernel
theorem d_V_get_70 : decode b_V_get 70 = .ok (.getfield 49, 3) := by decide +kernel
theorem d_V_get_73 : decode b_V_get 73 = .ok (.iload_n 3, 1) := by decide +kernel
theorem d_V_get_74 : decode b_V_get 74 = .ok (.aaload, 1) := by decide +kernel
theorem d_V_get_75 : decode b_V_get 75 = .ok (.iload_n 2, 1) := by decide +kernel
theorem d_V_get_76 : decode b_V_get 76 = .ok (.aload_n 0, 1) := by decide +kernel
theorem d_V_get_77 : decode b_V_get 77 = .ok (.getfield 58, 3) := by decide +kernel
theorem d_V_get_80 : decode b_V_get 80 = .ok (.aload_n 0, 1) := by decide +kernel
theorem d_V_get_81 : decode b_V_get 81 = .ok (.getfield 34, 3) := by decide +kernel
theorem d_V_get_84 : decode b_V_get 84 = .ok (.invokevirtual 140, 3) := by decide +kernel
theorem d_V_get_87 : decode b_V_get 87 = .ok (.aload_n 0, 1) := by decide +kernel
theorem d_V_get_88 : decode b_V_get 88 = .ok (.iconst 0, 1) := by decide +kernel
theorem d_V_get_89 : decode b_V_get 89 = .ok (.putfield 144, 3) := by decide +kernel
theorem d_V_get_92 : decode b_V_get 92 = .ok (.iconst 0, 1) := by decide +kernel
theorem d_V_get_93 : decode b_V_get 93 = .ok (.istore 5, 2) := by decide +kernel
theorem d_V_get_95 : decode b_V_get 95 = .ok (.iload 5, 2) := by decide +kernel
theorem d_V_get_97 : decode b_V_get 97 = .ok (.aload_n 0, 1) := by decide +kernel
theorem d_V_get_98 : decode b_V_get 98 = .ok (.getfield 147, 3) := by decide +kernel
theorem d_V_get_101 : decode b_V_get 101 = .ok (.if_icmp .ge 37, 3) := by decide +kernel
theorem d_V_get_104 : decode b_V_get 104 = .ok (.aload_n 0, 1) := by decide +kernel
theorem d_V_get_105 : decode b_V_get 105 = .ok (.dup, 1) := by decide +kernel
theorem d_V_get_106 : decode b_V_get 106 = .ok (.getfield 144, 3) := by decide +kernel
theorem d_V_get_109 : decode b_V_get 109 = .ok (.aload_n 0, 1) := by decide +kernel
theorem d_V_get_110 : decode b_V_get 110 = .ok (.getfield 40, 3) := by decide +kernel
theorem d_V_get_113 : decode b_V_get 113 = .ok (.aload_n 0, 1) := by decide +kernel
theorem d_V_get_114 : decode b_V_get 114 = .ok (.getfield 61, 3) := by decide +kernel
theorem d_V_get_117 : decode b_V_get 117 = .ok (.iload 5, 2) := by decide +kernel
theorem d_V_get_119 : decode b_V_get 119 = .ok (.iaload, 1) := by decide +kernel
theorem d_V_get_120 : decode b_V_get 120 = .ok (.aaload, 1) := by decide +kernel
theorem d_V_get_121 : decode b_V_get 121 = .ok (.aload_n 0, 1) := by decide +kernel
theorem d_V_get_122 : decode b_V_get 122 = .ok (.getfield 58, 3) := by decide +kernel
theorem d_V_get_125 : decode b_V_get 125 = .ok (.invokevirtual 150, 3) := by decide +kernel
theorem d_V_get_128 : decode b_V_get 128 = .ok (.iadd, 1) := by decide +kernel
theorem d_V_get_129 : decode b_V_get 129 = .ok (.putfield 144, 3) := by decide +kernel
theorem d_V_get_132 : decode b_V_get 132 = .ok (.iinc 5 1, 3) := by decide +kernel
theorem d_V_get_135 : decode b_V_get 135 = .ok (.goto (-40), 3) := by decide +kernel
theorem d_V_get_138 : decode b_V_get 138 = .ok (.iload 4, 2) := by decide +kernel
theorem d_V_get_140 : decode b_V_get 140 = .ok (.ireturn, 1) := by decide +kernel
theorem d_V_found_0 : decode b_V_found 0 = .ok (.iconst 0, 1) := by decide +kernel
theorem d_V_found_1 : decode b_V_found 1 = .ok (.istore_n 2, 1) := by decide +kernel
theorem d_V_found_2 : decode b_V_found 2 = .ok (.iconst 0, 1) := by decide +kernel
theorem d_V_found_3 : decode b_V_found 3 = .ok (.istore_n 3, 1) := by decide +kernel
theorem d_V_found_4 : decode b_V_found 4 = .ok (.iload_n 3, 1) := by decide +kernel
theorem d_V_found_5 : decode b_V_found 5 = .ok (.aload_n 0, 1) := by decide +kernel
theorem d_V_found_6 : decode b_V_found 6 = .ok (.getfield 34, 3) := by decide +kernel
theorem d_V_found_9 : decode b_V_found 9 = .ok (.getfield 104, 3) := by decide +kernel
theorem d_V_found_12 : decode b_V_found 12 = .ok (.if_icmp .ge 28, 3) := by decide +kernel
theorem d_V_found_15 : decode b_V_found 15 = .ok (.aload_n 0, 1) := by decide +kernel
theorem d_V_found_16 : decode b_V_found 16 = .ok (.getfield 58, 3) := by decide +kernel
theorem d_V_found_19 : decode b_V_found 19 = .ok (.iload_n 3, 1) := by decide +kernel
theorem d_V_found_20 : decode b_V_found 20 = .ok (.baload, 1) := by decide +kernel
theorem d_V_found_21 : decode b_V_found 21 = .ok (.ifCond .eq 13, 3) := by decide +kernel
theorem d_V_found_24 : decode b_V_found 24 = .ok (.iload_n 2, 1) := by decide +kernel
theorem d_V_found_25 : decode b_V_found 25 = .ok (.iload_n 1, 1) := by decide +kernel
theorem d_V_found_26 : decode b_V_found 26 = .ok (.if_icmp .ne 5, 3) := by decide +kernel
theorem d_V_found_29 : decode b_V_found 29 = .ok (.iload_n 3, 1) := by decide +kernel
theorem d_V_found_30 : decode b_V_found 30 = .ok (.ireturn, 1) := by decide +kernel
theorem d_V_found_31 : decode b_V_found 31 = .ok (.iinc 2 1, 3) := by decide +kernel
theorem d_V_found_34 : decode b_V_found 34 = .ok (.iinc 3 1, 3) := by decide +kernel
theorem d_V_found_37 : decode b_V_found 37 = .ok (.goto (-33), 3) := by decide +kernel
theorem d_V_found_40 : decode b_V_found 40 = .ok (.iconst (-1), 1) := by decide +kernel
theorem d_V_found_41 : decode b_V_found 41 = .ok (.ireturn, 1) := by decide +kernel
theorem d_V_repaired_0 : decode b_V_repaired 0 = .ok (.aload_n 0, 1) := by decide +kernel
theorem d_V_repaired_1 : decode b_V_repaired 1 = .ok (.getfield 144, 3) := by decide +kernel
theorem d_V_repaired_4 : decode b_V_repaired 4 = .ok (.ireturn, 1) := by decide +kernel
theorem d_V_handOver_0 : decode b_V_handOver 0 = .ok (.iload_n 1, 1) := by decide +kernel
theorem d_V_handOver_1 : decode b_V_handOver 1 = .ok (.invokestatic 77, 3) := by decide +kernel
theorem d_V_handOver_4 : decode b_V_handOver 4 = .ok (.ifCond .ne 5, 3) := by decide +kernel
theorem d_V_handOver_7 : decode b_V_handOver 7 = .ok (.iconst (-1), 1) := by decide +kernel
theorem d_V_handOver_8 : decode b_V_handOver 8 = .ok (.ireturn, 1) := by decide +kernel
theorem d_V_handOver_9 : decode b_V_handOver 9 = .ok (.aload_n 0, 1) := by decide +kernel
theorem d_V_handOver_10 : decode b_V_handOver 10 = .ok (.getfield 40, 3) := by decide +kernel
theorem d_V_handOver_13 : decode b_V_handOver 13 = .ok (.iload_n 1, 1) := by decide +kernel
theorem d_V_handOver_14 : decode b_V_handOver 14 = .ok (.aaload, 1) := by decide +kernel
theorem d_V_handOver_15 : decode b_V_handOver 15 = .ok (.getfield 87, 3) := by decide +kernel
theorem d_V_handOver_18 : decode b_V_handOver 18 = .ok (.ifCond .ne 6, 3) := by decide +kernel
theorem d_V_handOver_21 : decode b_V_handOver 21 = .ok (.bipush (-2), 2) := by decide +kernel
theorem d_V_handOver_23 : decode b_V_handOver 23 = .ok (.ireturn, 1) := by decide +kernel
theorem d_V_handOver_24 : decode b_V_handOver 24 = .ok (.aload_n 0, 1) := by decide +kernel
theorem d_V_handOver_25 : decode b_V_handOver 25 = .ok (.iload_n 1, 1) := by decide +kernel
theorem d_V_handOver_26 : decode b_V_handOver 26 = .ok (.invokevirtual 154, 3) := by decide +kernel
theorem d_V_handOver_29 : decode b_V_handOver 29 = .ok (.istore_n 2, 1) := by decide +kernel
theorem d_V_handOver_30 : decode b_V_handOver 30 = .ok (.iconst 0, 1) := by decide +kernel
theorem d_V_handOver_31 : decode b_V_handOver 31 = .ok (.istore_n 3, 1) := by decide +kernel
theorem d_V_handOver_32 : decode b_V_handOver 32 = .ok (.iload_n 3, 1) := by decide +kernel
theorem d_V_handOver_33 : decode b_V_handOver 33 = .ok (.bipush 32, 2) := by decide +kernel
theorem d_V_handOver_35 : decode b_V_handOver 35 = .ok (.if_icmp .ge 18, 3) := by decide +kernel
theorem d_V_handOver_38 : decode b_V_handOver 38 = .ok (.iload_n 2, 1) := by decide +kernel
theorem d_V_handOver_39 : decode b_V_handOver 39 = .ok (.aload_n 0, 1) := by decide +kernel
theorem d_V_handOver_40 : decode b_V_handOver 40 = .ok (.iload_n 1, 1) := by decide +kernel
theorem d_V_handOver_41 : decode b_V_handOver 41 = .ok (.iload_n 3, 1) := by decide +kernel
theorem d_V_handOver_42 : decode b_V_handOver 42 = .ok (.invokevirtual 158, 3) := by decide +kernel
theorem d_V_handOver_45 : decode b_V_handOver 45 = .ok (.iadd, 1) := by decide +kernel
theorem d_V_handOver_46 : decode b_V_handOver 46 = .ok (.istore_n 2, 1) := by decide +kernel
theorem d_V_handOver_47 : decode b_V_handOver 47 = .ok (.iinc 3 1, 3) := by decide +kernel
theorem d_V_handOver_50 : decode b_V_handOver 50 = .ok (.goto (-18), 3) := by decide +kernel
theorem d_V_handOver_53 : decode b_V_handOver 53 = .ok (.iload_n 2, 1) := by decide +kernel
theorem d_V_handOver_54 : decode b_V_handOver 54 = .ok (.ireturn, 1) := by decide +kernel
theorem d_V_compare_0 : decode b_V_compare 0 = .ok (.iload_n 1, 1) := by decide +kernel
theorem d_V_compare_1 : decode b_V_compare 1 = .ok (.iload_n 2, 1) := by decide +kernel
theorem d_V_compare_2 : decode b_V_compare 2 = .ok (.invokestatic 91, 3) := by decide +kernel
theorem d_V_compare_5 : decode b_V_compare 5 = .ok (.ifCond .ne 5, 3) := by decide +kernel
theorem d_V_compare_8 : decode b_V_compare 8 = .ok (.iconst (-1), 1) := by decide +kernel
theorem d_V_compare_9 : decode b_V_compare 9 = .ok (.ireturn, 1) := by decide +kernel
theorem d_V_compare_10 : decode b_V_compare 10 = .ok (.aload_n 0, 1) := by decide +kernel
theorem d_V_compare_11 : decode b_V_compare 11 = .ok (.iload_n 1, 1) := by decide +kernel
theorem d_V_compare_12 : decode b_V_compare 12 = .ok (.iload_n 2, 1) := by decide +kernel
theorem d_V_compare_13 : decode b_V_compare 13 = .ok (.invokevirtual 161, 3) := by decide +kernel
theorem d_V_compare_16 : decode b_V_compare 16 = .ok (.ifCond .ne 6, 3) := by decide +kernel
theorem d_V_compare_19 : decode b_V_compare 19 = .ok (.bipush (-2), 2) := by decide +kernel
theorem d_V_compare_21 : decode b_V_compare 21 = .ok (.ireturn, 1) := by decide +kernel
theorem d_V_compare_22 : decode b_V_compare 22 = .ok (.iconst 0, 1) := by decide +kernel
theorem d_V_compare_23 : decode b_V_compare 23 = .ok (.istore_n 3, 1) := by decide +kernel
theorem d_V_compare_24 : decode b_V_compare 24 = .ok (.iload_n 3, 1) := by decide +kernel
theorem d_V_compare_25 : decode b_V_compare 25 = .ok (.bipush 32, 2) := by decide +kernel
theorem d_V_compare_27 : decode b_V_compare 27 = .ok (.if_icmp .ge 56, 3) := by decide +kernel
theorem d_V_compare_30 : decode b_V_compare 30 = .ok (.aload_n 0, 1) := by decide +kernel
theorem d_V_compare_31 : decode b_V_compare 31 = .ok (.getfield 74, 3) := by decide +kernel
theorem d_V_compare_34 : decode b_V_compare 34 = .ok (.iload_n 3, 1) := by decide +kernel
theorem d_V_compare_35 : decode b_V_compare 35 = .ok (.aload_n 0, 1) := by decide +kernel
theorem d_V_compare_36 : decode b_V_compare 36 = .ok (.iload_n 1, 1) := by decide +kernel
theorem d_V_compare_37 : decode b_V_compare 37 = .ok (.iload_n 2, 1) := by decide +kernel
theorem d_V_compare_38 : decode b_V_compare 38 = .ok (.iload_n 3, 1) := by decide +kernel
theorem d_V_compare_39 : decode b_V_compare 39 = .ok (.invokevirtual 164, 3) := by decide +kernel
theorem d_V_compare_42 : decode b_V_compare 42 = .ok (.ifCond .eq 17, 3) := by decide +kernel
theorem d_V_compare_45 : decode b_V_compare 45 = .ok (.aload_n 0, 1) := by decide +kernel
theorem d_V_compare_46 : decode b_V_compare 46 = .ok (.iload_n 1, 1) := by decide +kernel
theorem d_V_compare_47 : decode b_V_compare 47 = .ok (.iload_n 2, 1) := by decide +kernel
theorem d_V_compare_48 : decode b_V_compare 48 = .ok (.iload_n 3, 1) := by decide +kernel
theorem d_V_compare_49 : decode b_V_compare 49 = .ok (.invokevirtual 168, 3) := by decide +kernel
theorem d_V_compare_52 : decode b_V_compare 52 = .ok (.ifCond .eq 7, 3) := by decide +kernel
theorem d_V_compare_55 : decode b_V_compare 55 = .ok (.iconst 1, 1) := by decide +kernel
theorem d_V_compare_56 : decode b_V_compare 56 = .ok (.goto 4, 3) := by decide +kernel
theorem d_V_compare_59 : decode b_V_compare 59 = .ok (.iconst 0, 1) := by decide +kernel
theorem d_V_compare_60 : decode b_V_compare 60 = .ok (.bastore, 1) := by decide +kernel
theorem d_V_compare_61 : decode b_V_compare 61 = .ok (.aload_n 0, 1) := by decide +kernel
theorem d_V_compare_62 : decode b_V_compare 62 = .ok (.getfield 74, 3) := by decide +kernel
theorem d_V_compare_65 : decode b_V_compare 65 = .ok (.iload_n 3, 1) := by decide +kernel
theorem d_V_compare_66 : decode b_V_compare 66 = .ok (.baload, 1) := by decide +kernel
theorem d_V_compare_67 : decode b_V_compare 67 = .ok (.ifCond .eq 10, 3) := by decide +kernel
theorem d_V_compare_70 : decode b_V_compare 70 = .ok (.aload_n 0, 1) := by decide +kernel
theorem d_V_compare_71 : decode b_V_compare 71 = .ok (.iload_n 1, 1) := by decide +kernel
theorem d_V_compare_72 : decode b_V_compare 72 = .ok (.iload_n 2, 1) := by decide +kernel
theorem d_V_compare_73 : decode b_V_compare 73 = .ok (.iload_n 3, 1) := by decide +kernel
theorem d_V_compare_74 : decode b_V_compare 74 = .ok (.invokevirtual 171, 3) := by decide +kernel
theorem d_V_compare_77 : decode b_V_compare 77 = .ok (.iinc 3 1, 3) := by decide +kernel
theorem d_V_compare_80 : decode b_V_compare 80 = .ok (.goto (-56), 3) := by decide +kernel
theorem d_V_compare_83 : decode b_V_compare 83 = .ok (.aload_n 0, 1) := by decide +kernel
theorem d_V_compare_84 : decode b_V_compare 84 = .ok (.invokevirtual 175, 3) := by decide +kernel
theorem d_V_compare_87 : decode b_V_compare 87 = .ok (.ireturn, 1) := by decide +kernel
theorem d_V_home_0 : decode b_V_home 0 = .ok (.iload_n 1, 1) := by decide +kernel
theorem d_V_home_1 : decode b_V_home 1 = .ok (.invokestatic 98, 3) := by decide +kernel
theorem d_V_home_4 : decode b_V_home 4 = .ok (.ifCond .eq 7, 3) := by decide +kernel
theorem d_V_home_7 : decode b_V_home 7 = .ok (.iload_n 2, 1) := by decide +kernel
theorem d_V_home_8 : decode b_V_home 8 = .ok (.ifCond .ge 5, 3) := by decide +kernel
end
section
theorem d_V_home_11 : decode b_V_home 11 = .ok (.iconst (-1), 1) := by decide +kernel
theorem d_V_home_12 : decode b_V_home 12 = .ok (.ireturn, 1) := by decide +kernel
theorem d_V_home_13 : decode b_V_home 13 = .ok (.aload_n 0, 1) := by decide +kernel
theorem d_V_home_14 : decode b_V_home 14 = .ok (.getfield 18, 3) := by decide +kernel
theorem d_V_home_17 : decode b_V_home 17 = .ok (.iload_n 1, 1) := by decide +kernel
theorem d_V_home_18 : decode b_V_home 18 = .ok (.invokevirtual 178, 3) := by decide +kernel
theorem d_V_home_21 : decode b_V_home 21 = .ok (.iload_n 2, 1) := by decide +kernel
theorem d_V_home_22 : decode b_V_home 22 = .ok (.aload_n 0, 1) := by decide +kernel
theorem d_V_home_23 : decode b_V_home 23 = .ok (.getfield 18, 3) := by decide +kernel
theorem d_V_home_26 : decode b_V_home 26 = .ok (.getfield 181, 3) := by decide +kernel
theorem d_V_home_29 : decode b_V_home 29 = .ok (.if_icmp .ge 15, 3) := by decide +kernel
theorem d_V_home_32 : decode b_V_home 32 = .ok (.aload_n 0, 1) := by decide +kernel
theorem d_V_home_33 : decode b_V_home 33 = .ok (.getfield 18, 3) := by decide +kernel
theorem d_V_home_36 : decode b_V_home 36 = .ok (.getfield 184, 3) := by decide +kernel
theorem d_V_home_39 : decode b_V_home 39 = .ok (.iload_n 2, 1) := by decide +kernel
theorem d_V_home_40 : decode b_V_home 40 = .ok (.iaload, 1) := by decide +kernel
theorem d_V_home_41 : decode b_V_home 41 = .ok (.goto 4, 3) := by decide +kernel
theorem d_V_home_44 : decode b_V_home 44 = .ok (.iconst (-1), 1) := by decide +kernel
theorem d_V_home_45 : decode b_V_home 45 = .ok (.ireturn, 1) := by decide +kernel
theorem d_V_targets_0 : decode b_V_targets 0 = .ok (.iload_n 1, 1) := by decide +kernel
theorem d_V_targets_1 : decode b_V_targets 1 = .ok (.invokestatic 77, 3) := by decide +kernel
theorem d_V_targets_4 : decode b_V_targets 4 = .ok (.ifCond .eq 10, 3) := by decide +kernel
theorem d_V_targets_7 : decode b_V_targets 7 = .ok (.iload_n 2, 1) := by decide +kernel
theorem d_V_targets_8 : decode b_V_targets 8 = .ok (.invokestatic 98, 3) := by decide +kernel
theorem d_V_targets_11 : decode b_V_targets 11 = .ok (.ifCond .ne 5, 3) := by decide +kernel
theorem d_V_targets_14 : decode b_V_targets 14 = .ok (.iconst 0, 1) := by decide +kernel
theorem d_V_targets_15 : decode b_V_targets 15 = .ok (.ireturn, 1) := by decide +kernel
theorem d_V_targets_16 : decode b_V_targets 16 = .ok (.aload_n 0, 1) := by decide +kernel
theorem d_V_targets_17 : decode b_V_targets 17 = .ok (.iload_n 1, 1) := by decide +kernel
theorem d_V_targets_18 : decode b_V_targets 18 = .ok (.iload_n 2, 1) := by decide +kernel
theorem d_V_targets_19 : decode b_V_targets 19 = .ok (.invokevirtual 107, 3) := by decide +kernel
theorem d_V_targets_22 : decode b_V_targets 22 = .ok (.aload_n 0, 1) := by decide +kernel
theorem d_V_targets_23 : decode b_V_targets 23 = .ok (.getfield 111, 3) := by decide +kernel
theorem d_V_targets_26 : decode b_V_targets 26 = .ok (.ireturn, 1) := by decide +kernel
theorem d_V_holds_0 : decode b_V_holds 0 = .ok (.iload_n 1, 1) := by decide +kernel
theorem d_V_holds_1 : decode b_V_holds 1 = .ok (.invokestatic 77, 3) := by decide +kernel
theorem d_V_holds_4 : decode b_V_holds 4 = .ok (.ifCond .eq 14, 3) := by decide +kernel
theorem d_V_holds_7 : decode b_V_holds 7 = .ok (.aload_n 0, 1) := by decide +kernel
theorem d_V_holds_8 : decode b_V_holds 8 = .ok (.getfield 34, 3) := by decide +kernel
theorem d_V_holds_11 : decode b_V_holds 11 = .ok (.iload_n 2, 1) := by decide +kernel
theorem d_V_holds_12 : decode b_V_holds 12 = .ok (.invokevirtual 187, 3) := by decide +kernel
theorem d_V_holds_15 : decode b_V_holds 15 = .ok (.ifCond .ne 5, 3) := by decide +kernel
theorem d_V_holds_18 : decode b_V_holds 18 = .ok (.iconst (-1), 1) := by decide +kernel
theorem d_V_holds_19 : decode b_V_holds 19 = .ok (.ireturn, 1) := by decide +kernel
theorem d_V_holds_20 : decode b_V_holds 20 = .ok (.aload_n 0, 1) := by decide +kernel
theorem d_V_holds_21 : decode b_V_holds 21 = .ok (.getfield 40, 3) := by decide +kernel
theorem d_V_holds_24 : decode b_V_holds 24 = .ok (.iload_n 1, 1) := by decide +kernel
theorem d_V_holds_25 : decode b_V_holds 25 = .ok (.aaload, 1) := by decide +kernel
theorem d_V_holds_26 : decode b_V_holds 26 = .ok (.getfield 190, 3) := by decide +kernel
theorem d_V_holds_29 : decode b_V_holds 29 = .ok (.iload_n 2, 1) := by decide +kernel
theorem d_V_holds_30 : decode b_V_holds 30 = .ok (.baload, 1) := by decide +kernel
theorem d_V_holds_31 : decode b_V_holds 31 = .ok (.ifCond .eq 7, 3) := by decide +kernel
theorem d_V_holds_34 : decode b_V_holds 34 = .ok (.iconst 1, 1) := by decide +kernel
theorem d_V_holds_35 : decode b_V_holds 35 = .ok (.goto 4, 3) := by decide +kernel
theorem d_V_holds_38 : decode b_V_holds 38 = .ok (.iconst 0, 1) := by decide +kernel
theorem d_V_holds_39 : decode b_V_holds 39 = .ok (.istore_n 3, 1) := by decide +kernel
theorem d_V_holds_40 : decode b_V_holds 40 = .ok (.aload_n 0, 1) := by decide +kernel
theorem d_V_holds_41 : decode b_V_holds 41 = .ok (.getfield 40, 3) := by decide +kernel
theorem d_V_holds_44 : decode b_V_holds 44 = .ok (.iload_n 1, 1) := by decide +kernel
theorem d_V_holds_45 : decode b_V_holds 45 = .ok (.aaload, 1) := by decide +kernel
theorem d_V_holds_46 : decode b_V_holds 46 = .ok (.iload_n 2, 1) := by decide +kernel
theorem d_V_holds_47 : decode b_V_holds 47 = .ok (.invokevirtual 193, 3) := by decide +kernel
theorem d_V_holds_50 : decode b_V_holds 50 = .ok (.ifCond .eq 7, 3) := by decide +kernel
theorem d_V_holds_53 : decode b_V_holds 53 = .ok (.iconst 2, 1) := by decide +kernel
theorem d_V_holds_54 : decode b_V_holds 54 = .ok (.goto 4, 3) := by decide +kernel
theorem d_V_holds_57 : decode b_V_holds 57 = .ok (.iconst 0, 1) := by decide +kernel
theorem d_V_holds_58 : decode b_V_holds 58 = .ok (.istore 4, 2) := by decide +kernel
theorem d_V_holds_60 : decode b_V_holds 60 = .ok (.iload_n 3, 1) := by decide +kernel
theorem d_V_holds_61 : decode b_V_holds 61 = .ok (.iload 4, 2) := by decide +kernel
theorem d_V_holds_63 : decode b_V_holds 63 = .ok (.iadd, 1) := by decide +kernel
theorem d_V_holds_64 : decode b_V_holds 64 = .ok (.ireturn, 1) := by decide +kernel
theorem d_V_count_0 : decode b_V_count 0 = .ok (.iload_n 1, 1) := by decide +kernel
theorem d_V_count_1 : decode b_V_count 1 = .ok (.invokestatic 77, 3) := by decide +kernel
theorem d_V_count_4 : decode b_V_count 4 = .ok (.ifCond .eq 10, 3) := by decide +kernel
theorem d_V_count_7 : decode b_V_count 7 = .ok (.iload_n 2, 1) := by decide +kernel
theorem d_V_count_8 : decode b_V_count 8 = .ok (.invokestatic 98, 3) := by decide +kernel
theorem d_V_count_11 : decode b_V_count 11 = .ok (.ifCond .ne 5, 3) := by decide +kernel
theorem d_V_count_14 : decode b_V_count 14 = .ok (.iconst (-1), 1) := by decide +kernel
theorem d_V_count_15 : decode b_V_count 15 = .ok (.ireturn, 1) := by decide +kernel
theorem d_V_count_16 : decode b_V_count 16 = .ok (.aload_n 0, 1) := by decide +kernel
theorem d_V_count_17 : decode b_V_count 17 = .ok (.getfield 40, 3) := by decide +kernel
theorem d_V_count_20 : decode b_V_count 20 = .ok (.iload_n 1, 1) := by decide +kernel
theorem d_V_count_21 : decode b_V_count 21 = .ok (.aaload, 1) := by decide +kernel
theorem d_V_count_22 : decode b_V_count 22 = .ok (.iload_n 2, 1) := by decide +kernel
theorem d_V_count_23 : decode b_V_count 23 = .ok (.aload_n 0, 1) := by decide +kernel
theorem d_V_count_24 : decode b_V_count 24 = .ok (.getfield 68, 3) := by decide +kernel
theorem d_V_count_27 : decode b_V_count 27 = .ok (.invokevirtual 196, 3) := by decide +kernel
theorem d_V_count_30 : decode b_V_count 30 = .ok (.ireturn, 1) := by decide +kernel
theorem d_V_hints_0 : decode b_V_hints 0 = .ok (.iload_n 1, 1) := by decide +kernel
theorem d_V_hints_1 : decode b_V_hints 1 = .ok (.invokestatic 77, 3) := by decide +kernel
theorem d_V_hints_4 : decode b_V_hints 4 = .ok (.ifCond .ne 5, 3) := by decide +kernel
theorem d_V_hints_7 : decode b_V_hints 7 = .ok (.iconst (-1), 1) := by decide +kernel
theorem d_V_hints_8 : decode b_V_hints 8 = .ok (.ireturn, 1) := by decide +kernel
theorem d_V_hints_9 : decode b_V_hints 9 = .ok (.iconst 0, 1) := by decide +kernel
theorem d_V_hints_10 : decode b_V_hints 10 = .ok (.istore_n 2, 1) := by decide +kernel
theorem d_V_hints_11 : decode b_V_hints 11 = .ok (.iconst 0, 1) := by decide +kernel
theorem d_V_hints_12 : decode b_V_hints 12 = .ok (.istore_n 3, 1) := by decide +kernel
theorem d_V_hints_13 : decode b_V_hints 13 = .ok (.iload_n 3, 1) := by decide +kernel
theorem d_V_hints_14 : decode b_V_hints 14 = .ok (.aload_n 0, 1) := by decide +kernel
theorem d_V_hints_15 : decode b_V_hints 15 = .ok (.getfield 34, 3) := by decide +kernel
theorem d_V_hints_18 : decode b_V_hints 18 = .ok (.getfield 104, 3) := by decide +kernel
theorem d_V_hints_21 : decode b_V_hints 21 = .ok (.if_icmp .ge 25, 3) := by decide +kernel
theorem d_V_hints_24 : decode b_V_hints 24 = .ok (.aload_n 0, 1) := by decide +kernel
theorem d_V_hints_25 : decode b_V_hints 25 = .ok (.getfield 40, 3) := by decide +kernel
theorem d_V_hints_28 : decode b_V_hints 28 = .ok (.iload_n 1, 1) := by decide +kernel
theorem d_V_hints_29 : decode b_V_hints 29 = .ok (.aaload, 1) := by decide +kernel
theorem d_V_hints_30 : decode b_V_hints 30 = .ok (.iload_n 3, 1) := by decide +kernel
theorem d_V_hints_31 : decode b_V_hints 31 = .ok (.invokevirtual 193, 3) := by decide +kernel
theorem d_V_hints_34 : decode b_V_hints 34 = .ok (.ifCond .eq 6, 3) := by decide +kernel
theorem d_V_hints_37 : decode b_V_hints 37 = .ok (.iinc 2 1, 3) := by decide +kernel
theorem d_V_hints_40 : decode b_V_hints 40 = .ok (.iinc 3 1, 3) := by decide +kernel
theorem d_V_hints_43 : decode b_V_hints 43 = .ok (.goto (-30), 3) := by decide +kernel
theorem d_V_hints_46 : decode b_V_hints 46 = .ok (.iload_n 2, 1) := by decide +kernel
theorem d_V_hints_47 : decode b_V_hints 47 = .ok (.ireturn, 1) := by decide +kernel
theorem d_V_versions_0 : decode b_V_versions 0 = .ok (.aload_n 0, 1) := by decide +kernel
theorem d_V_versions_1 : decode b_V_versions 1 = .ok (.getfield 34, 3) := by decide +kernel
theorem d_V_versions_4 : decode b_V_versions 4 = .ok (.getfield 104, 3) := by decide +kernel
theorem d_V_versions_7 : decode b_V_versions 7 = .ok (.ireturn, 1) := by decide +kernel
theorem d_V_version_0 : decode b_V_version 0 = .ok (.aload_n 0, 1) := by decide +kernel
theorem d_V_version_1 : decode b_V_version 1 = .ok (.getfield 34, 3) := by decide +kernel
theorem d_V_version_4 : decode b_V_version 4 = .ok (.iload_n 1, 1) := by decide +kernel
theorem d_V_version_5 : decode b_V_version 5 = .ok (.invokevirtual 187, 3) := by decide +kernel
theorem d_V_version_8 : decode b_V_version 8 = .ok (.ifCond .ne 5, 3) := by decide +kernel
theorem d_V_version_11 : decode b_V_version 11 = .ok (.iconst 0, 1) := by decide +kernel
theorem d_V_version_12 : decode b_V_version 12 = .ok (.ireturn, 1) := by decide +kernel
theorem d_V_version_13 : decode b_V_version 13 = .ok (.iload_n 2, 1) := by decide +kernel
theorem d_V_version_14 : decode b_V_version 14 = .ok (.iconst 5, 1) := by decide +kernel
theorem d_V_version_15 : decode b_V_version 15 = .ok (.if_icmp .ne 13, 3) := by decide +kernel
theorem d_V_version_18 : decode b_V_version 18 = .ok (.aload_n 0, 1) := by decide +kernel
theorem d_V_version_19 : decode b_V_version 19 = .ok (.getfield 34, 3) := by decide +kernel
theorem d_V_version_22 : decode b_V_version 22 = .ok (.getfield 200, 3) := by decide +kernel
theorem d_V_version_25 : decode b_V_version 25 = .ok (.iload_n 1, 1) := by decide +kernel
theorem d_V_version_26 : decode b_V_version 26 = .ok (.iaload, 1) := by decide +kernel
theorem d_V_version_27 : decode b_V_version 27 = .ok (.ireturn, 1) := by decide +kernel
theorem d_V_version_28 : decode b_V_version 28 = .ok (.iload_n 2, 1) := by decide +kernel
theorem d_V_version_29 : decode b_V_version 29 = .ok (.bipush 6, 2) := by decide +kernel
theorem d_V_version_31 : decode b_V_version 31 = .ok (.if_icmp .ne 13, 3) := by decide +kernel
theorem d_V_version_34 : decode b_V_version 34 = .ok (.aload_n 0, 1) := by decide +kernel
theorem d_V_version_35 : decode b_V_version 35 = .ok (.getfield 34, 3) := by decide +kernel
theorem d_V_version_38 : decode b_V_version 38 = .ok (.getfield 203, 3) := by decide +kernel
theorem d_V_version_41 : decode b_V_version 41 = .ok (.iload_n 1, 1) := by decide +kernel
theorem d_V_version_42 : decode b_V_version 42 = .ok (.iaload, 1) := by decide +kernel
theorem d_V_version_43 : decode b_V_version 43 = .ok (.ireturn, 1) := by decide +kernel
theorem d_V_version_44 : decode b_V_version 44 = .ok (.iload_n 2, 1) := by decide +kernel
theorem d_V_version_45 : decode b_V_version 45 = .ok (.invokestatic 77, 3) := by decide +kernel
theorem d_V_version_48 : decode b_V_version 48 = .ok (.ifCond .eq 15, 3) := by decide +kernel
theorem d_V_version_51 : decode b_V_version 51 = .ok (.aload_n 0, 1) := by decide +kernel
theorem d_V_version_52 : decode b_V_version 52 = .ok (.getfield 34, 3) := by decide +kernel
theorem d_V_version_55 : decode b_V_version 55 = .ok (.iload_n 1, 1) := by decide +kernel
theorem d_V_version_56 : decode b_V_version 56 = .ok (.iload_n 2, 1) := by decide +kernel
theorem d_V_version_57 : decode b_V_version 57 = .ok (.invokevirtual 206, 3) := by decide +kernel
theorem d_V_version_60 : decode b_V_version 60 = .ok (.goto 4, 3) := by decide +kernel
theorem d_V_version_63 : decode b_V_version 63 = .ok (.iconst 0, 1) := by decide +kernel
theorem d_V_version_64 : decode b_V_version 64 = .ok (.ireturn, 1) := by decide +kernel
theorem d_V_context_0 : decode b_V_context 0 = .ok (.iload_n 1, 1) := by decide +kernel
theorem d_V_context_1 : decode b_V_context 1 = .ok (.invokestatic 130, 3) := by decide +kernel
theorem d_V_context_4 : decode b_V_context 4 = .ok (.ifCond .eq 22, 3) := by decide +kernel
theorem d_V_context_7 : decode b_V_context 7 = .ok (.iload_n 2, 1) := by decide +kernel
theorem d_V_context_8 : decode b_V_context 8 = .ok (.invokestatic 77, 3) := by decide +kernel
theorem d_V_context_11 : decode b_V_context 11 = .ok (.ifCond .eq 15, 3) := by decide +kernel
theorem d_V_context_14 : decode b_V_context 14 = .ok (.aload_n 0, 1) := by decide +kernel
theorem d_V_context_15 : decode b_V_context 15 = .ok (.getfield 49, 3) := by decide +kernel
theorem d_V_context_18 : decode b_V_context 18 = .ok (.iload_n 1, 1) := by decide +kernel
theorem d_V_context_19 : decode b_V_context 19 = .ok (.aaload, 1) := by decide +kernel
theorem d_V_context_20 : decode b_V_context 20 = .ok (.invokevirtual 209, 3) := by decide +kernel
theorem d_V_context_23 : decode b_V_context 23 = .ok (.ifCond .eq 5, 3) := by decide +kernel
theorem d_V_context_26 : decode b_V_context 26 = .ok (.iconst (-1), 1) := by decide +kernel
theorem d_V_context_27 : decode b_V_context 27 = .ok (.ireturn, 1) := by decide +kernel
theorem d_V_context_28 : decode b_V_context 28 = .ok (.aload_n 0, 1) := by decide +kernel
theorem d_V_context_29 : decode b_V_context 29 = .ok (.getfield 49, 3) := by decide +kernel
theorem d_V_context_32 : decode b_V_context 32 = .ok (.iload_n 1, 1) := by decide +kernel
theorem d_V_context_33 : decode b_V_context 33 = .ok (.aaload, 1) := by decide +kernel
theorem d_V_context_34 : decode b_V_context 34 = .ok (.getfield 117, 3) := by decide +kernel
theorem d_V_context_37 : decode b_V_context 37 = .ok (.iload_n 2, 1) := by decide +kernel
theorem d_V_context_38 : decode b_V_context 38 = .ok (.iaload, 1) := by decide +kernel
theorem d_V_context_39 : decode b_V_context 39 = .ok (.ireturn, 1) := by decide +kernel
theorem d_V_isNode_0 : decode b_V_isNode 0 = .ok (.iload_n 0, 1) := by decide +kernel
theorem d_V_isNode_1 : decode b_V_isNode 1 = .ok (.ifCond .lt 12, 3) := by decide +kernel
theorem d_V_isNode_4 : decode b_V_isNode 4 = .ok (.iload_n 0, 1) := by decide +kernel
theorem d_V_isNode_5 : decode b_V_isNode 5 = .ok (.iconst 5, 1) := by decide +kernel
theorem d_V_isNode_6 : decode b_V_isNode 6 = .ok (.if_icmp .ge 7, 3) := by decide +kernel
theorem d_V_isNode_9 : decode b_V_isNode 9 = .ok (.iconst 1, 1) := by decide +kernel
theorem d_V_isNode_10 : decode b_V_isNode 10 = .ok (.goto 4, 3) := by decide +kernel
theorem d_V_isNode_13 : decode b_V_isNode 13 = .ok (.iconst 0, 1) := by decide +kernel
theorem d_V_isNode_14 : decode b_V_isNode 14 = .ok (.ireturn, 1) := by decide +kernel
theorem d_V_areTwoNodes_0 : decode b_V_areTwoNodes 0 = .ok (.iload_n 0, 1) := by decide +kernel
theorem d_V_areTwoNodes_1 : decode b_V_areTwoNodes 1 = .ok (.invokestatic 77, 3) := by decide +kernel
theorem d_V_areTwoNodes_4 : decode b_V_areTwoNodes 4 = .ok (.ifCond .eq 19, 3) := by decide +kernel
theorem d_V_areTwoNodes_7 : decode b_V_areTwoNodes 7 = .ok (.iload_n 1, 1) := by decide +kernel
theorem d_V_areTwoNodes_8 : decode b_V_areTwoNodes 8 = .ok (.invokestatic 77, 3) := by decide +kernel
theorem d_V_areTwoNodes_11 : decode b_V_areTwoNodes 11 = .ok (.ifCond .eq 12, 3) := by decide +kernel
theorem d_V_areTwoNodes_14 : decode b_V_areTwoNodes 14 = .ok (.iload_n 0, 1) := by decide +kernel
theorem d_V_areTwoNodes_15 : decode b_V_areTwoNodes 15 = .ok (.iload_n 1, 1) := by decide +kernel
theorem d_V_areTwoNodes_16 : decode b_V_areTwoNodes 16 = .ok (.if_icmp .eq 7, 3) := by decide +kernel
theorem d_V_areTwoNodes_19 : decode b_V_areTwoNodes 19 = .ok (.iconst 1, 1) := by decide +kernel
theorem d_V_areTwoNodes_20 : decode b_V_areTwoNodes 20 = .ok (.goto 4, 3) := by decide +kernel
theorem d_V_areTwoNodes_23 : decode b_V_areTwoNodes 23 = .ok (.iconst 0, 1) := by decide +kernel
theorem d_V_areTwoNodes_24 : decode b_V_areTwoNodes 24 = .ok (.ireturn, 1) := by decide +kernel
theorem d_V_isPosition_0 : decode b_V_isPosition 0 = .ok (.iload_n 0, 1) := by decide +kernel
theorem d_V_isPosition_1 : decode b_V_isPosition 1 = .ok (.ifCond .lt 13, 3) := by decide +kernel
theorem d_V_isPosition_4 : decode b_V_isPosition 4 = .ok (.iload_n 0, 1) := by decide +kernel
theorem d_V_isPosition_5 : decode b_V_isPosition 5 = .ok (.bipush 16, 2) := by decide +kernel
theorem d_V_isPosition_7 : decode b_V_isPosition 7 = .ok (.if_icmp .ge 7, 3) := by decide +kernel
theorem d_V_isPosition_10 : decode b_V_isPosition 10 = .ok (.iconst 1, 1) := by decide +kernel
theorem d_V_isPosition_11 : decode b_V_isPosition 11 = .ok (.goto 4, 3) := by decide +kernel
theorem d_V_isPosition_14 : decode b_V_isPosition 14 = .ok (.iconst 0, 1) := by decide +kernel
theorem d_V_isPosition_15 : decode b_V_isPosition 15 = .ok (.ireturn, 1) := by decide +kernel
theorem d_V_isKey_0 : decode b_V_isKey 0 = .ok (.iload_n 0, 1) := by decide +kernel
theorem d_V_isKey_1 : decode b_V_isKey 1 = .ok (.ifCond .lt 13, 3) := by decide +kernel
theorem d_V_isKey_4 : decode b_V_isKey 4 = .ok (.iload_n 0, 1) := by decide +kernel
theorem d_V_isKey_5 : decode b_V_isKey 5 = .ok (.bipush 32, 2) := by decide +kernel
theorem d_V_isKey_7 : decode b_V_isKey 7 = .ok (.if_icmp .ge 7, 3) := by decide +kernel
theorem d_V_isKey_10 : decode b_V_isKey 10 = .ok (.iconst 1, 1) := by decide +kernel
theorem d_V_isKey_11 : decode b_V_isKey 11 = .ok (.goto 4, 3) := by decide +kernel
theorem d_V_isKey_14 : decode b_V_isKey 14 = .ok (.iconst 0, 1) := by decide +kernel
theorem d_V_isKey_15 : decode b_V_isKey 15 = .ok (.ireturn, 1) := by decide +kernel
theorem d_V_isContext_0 : decode b_V_isContext 0 = .ok (.iload_n 0, 1) := by decide +kernel
theorem d_V_isContext_1 : decode b_V_isContext 1 = .ok (.ifCond .lt 12, 3) := by decide +kernel
theorem d_V_isContext_4 : decode b_V_isContext 4 = .ok (.iload_n 0, 1) := by decide +kernel
theorem d_V_isContext_5 : decode b_V_isContext 5 = .ok (.iconst 4, 1) := by decide +kernel
theorem d_V_isContext_6 : decode b_V_isContext 6 = .ok (.if_icmp .ge 7, 3) := by decide +kernel
theorem d_V_isContext_9 : decode b_V_isContext 9 = .ok (.iconst 1, 1) := by decide +kernel
theorem d_V_isContext_10 : decode b_V_isContext 10 = .ok (.goto 4, 3) := by decide +kernel
theorem d_V_isContext_13 : decode b_V_isContext 13 = .ok (.iconst 0, 1) := by decide +kernel
theorem d_V_isContext_14 : decode b_V_isContext 14 = .ok (.ireturn, 1) := by decide +kernel
theorem d_V_mayKnow_0 : decode b_V_mayKnow 0 = .ok (.iload_n 1, 1) := by decide +kernel
theorem d_V_mayKnow_1 : decode b_V_mayKnow 1 = .ok (.iconst (-1), 1) := by decide +kernel
theorem d_V_mayKnow_2 : decode b_V_mayKnow 2 = .ok (.if_icmp .ne 5, 3) := by decide +kernel
theorem d_V_mayKnow_5 : decode b_V_mayKnow 5 = .ok (.iconst 1, 1) := by decide +kernel
theorem d_V_mayKnow_6 : decode b_V_mayKnow 6 = .ok (.ireturn, 1) := by decide +kernel
theorem d_V_mayKnow_7 : decode b_V_mayKnow 7 = .ok (.iload_n 1, 1) := by decide +kernel
theorem d_V_mayKnow_8 : decode b_V_mayKnow 8 = .ok (.invokestatic 130, 3) := by decide +kernel
theorem d_V_mayKnow_11 : decode b_V_mayKnow 11 = .ok (.ifCond .eq 32, 3) := by decide +kernel
theorem d_V_mayKnow_14 : decode b_V_mayKnow 14 = .ok (.aload_n 0, 1) := by decide +kernel
theorem d_V_mayKnow_15 : decode b_V_mayKnow 15 = .ok (.getfield 49, 3) := by decide +kernel
theorem d_V_mayKnow_18 : decode b_V_mayKnow 18 = .ok (.iload_n 1, 1) := by decide +kernel
theorem d_V_mayKnow_19 : decode b_V_mayKnow 19 = .ok (.aaload, 1) := by decide +kernel
theorem d_V_mayKnow_20 : decode b_V_mayKnow 20 = .ok (.invokevirtual 209, 3) := by decide +kernel
theorem d_V_mayKnow_23 : decode b_V_mayKnow 23 = .ok (.ifCond .ne 16, 3) := by decide +kernel
theorem d_V_mayKnow_26 : decode b_V_mayKnow 26 = .ok (.aload_n 0, 1) := by decide +kernel
theorem d_V_mayKnow_27 : decode b_V_mayKnow 27 = .ok (.getfield 49, 3) := by decide +kernel
theorem d_V_mayKnow_30 : decode b_V_mayKnow 30 = .ok (.iload_n 1, 1) := by decide +kernel
theorem d_V_mayKnow_31 : decode b_V_mayKnow 31 = .ok (.aaload, 1) := by decide +kernel
theorem d_V_mayKnow_32 : decode b_V_mayKnow 32 = .ok (.getfield 213, 3) := by decide +kernel
theorem d_V_mayKnow_35 : decode b_V_mayKnow 35 = .ok (.iload_n 2, 1) := by decide +kernel
theorem d_V_mayKnow_36 : decode b_V_mayKnow 36 = .ok (.if_icmp .ne 7, 3) := by decide +kernel
theorem d_V_mayKnow_39 : decode b_V_mayKnow 39 = .ok (.iconst 1, 1) := by decide +kernel
theorem d_V_mayKnow_40 : decode b_V_mayKnow 40 = .ok (.goto 4, 3) := by decide +kernel
theorem d_V_mayKnow_43 : decode b_V_mayKnow 43 = .ok (.iconst 0, 1) := by decide +kernel
theorem d_V_mayKnow_44 : decode b_V_mayKnow 44 = .ok (.ireturn, 1) := by decide +kernel
theorem d_V_line_0 : decode b_V_line 0 = .ok (.iload_n 0, 1) := by decide +kernel
theorem d_V_line_1 : decode b_V_line 1 = .ok (.iload_n 1, 1) := by decide +kernel
theorem d_V_line_2 : decode b_V_line 2 = .ok (.invokestatic 7, 3) := by decide +kernel
theorem d_V_line_5 : decode b_V_line 5 = .ok (.iconst 5, 1) := by decide +kernel
theorem d_V_line_6 : decode b_V_line 6 = .ok (.imul, 1) := by decide +kernel
theorem d_V_line_7 : decode b_V_line 7 = .ok (.iload_n 0, 1) := by decide +kernel
theorem d_V_line_8 : decode b_V_line 8 = .ok (.iload_n 1, 1) := by decide +kernel
theorem d_V_line_9 : decode b_V_line 9 = .ok (.invokestatic 216, 3) := by decide +kernel
theorem d_V_line_12 : decode b_V_line 12 = .ok (.iadd, 1) := by decide +kernel
theorem d_V_line_13 : decode b_V_line 13 = .ok (.ireturn, 1) := by decide +kernel
theorem d_V_reaches_0 : decode b_V_reaches 0 = .ok (.aload_n 0, 1) := by decide +kernel
theorem d_V_reaches_1 : decode b_V_reaches 1 = .ok (.getfield 40, 3) := by decide +kernel
theorem d_V_reaches_4 : decode b_V_reaches 4 = .ok (.iload_n 1, 1) := by decide +kernel
theorem d_V_reaches_5 : decode b_V_reaches 5 = .ok (.aaload, 1) := by decide +kernel
theorem d_V_reaches_6 : decode b_V_reaches 6 = .ok (.getfield 87, 3) := by decide +kernel
theorem d_V_reaches_9 : decode b_V_reaches 9 = .ok (.ifCond .eq 32, 3) := by decide +kernel
theorem d_V_reaches_12 : decode b_V_reaches 12 = .ok (.aload_n 0, 1) := by decide +kernel
theorem d_V_reaches_13 : decode b_V_reaches 13 = .ok (.getfield 40, 3) := by decide +kernel
theorem d_V_reaches_16 : decode b_V_reaches 16 = .ok (.iload_n 2, 1) := by decide +kernel
theorem d_V_reaches_17 : decode b_V_reaches 17 = .ok (.aaload, 1) := by decide +kernel
theorem d_V_reaches_18 : decode b_V_reaches 18 = .ok (.getfield 87, 3) := by decide +kernel
theorem d_V_reaches_21 : decode b_V_reaches 21 = .ok (.ifCond .eq 20, 3) := by decide +kernel
theorem d_V_reaches_24 : decode b_V_reaches 24 = .ok (.aload_n 0, 1) := by decide +kernel
theorem d_V_reaches_25 : decode b_V_reaches 25 = .ok (.getfield 54, 3) := by decide +kernel
theorem d_V_reaches_28 : decode b_V_reaches 28 = .ok (.iload_n 1, 1) := by decide +kernel
theorem d_V_reaches_29 : decode b_V_reaches 29 = .ok (.iload_n 2, 1) := by decide +kernel
theorem d_V_reaches_30 : decode b_V_reaches 30 = .ok (.invokestatic 95, 3) := by decide +kernel
theorem d_V_reaches_33 : decode b_V_reaches 33 = .ok (.baload, 1) := by decide +kernel
theorem d_V_reaches_34 : decode b_V_reaches 34 = .ok (.ifCond .ne 7, 3) := by decide +kernel
theorem d_V_reaches_37 : decode b_V_reaches 37 = .ok (.iconst 1, 1) := by decide +kernel
theorem d_V_reaches_38 : decode b_V_reaches 38 = .ok (.goto 4, 3) := by decide +kernel
theorem d_V_reaches_41 : decode b_V_reaches 41 = .ok (.iconst 0, 1) := by decide +kernel
theorem d_V_reaches_42 : decode b_V_reaches 42 = .ok (.ireturn, 1) := by decide +kernel
theorem d_V_aim_0 : decode b_V_aim 0 = .ok (.aload_n 0, 1) := by decide +kernel
theorem d_V_aim_1 : decode b_V_aim 1 = .ok (.getfield 18, 3) := by decide +kernel
theorem d_V_aim_4 : decode b_V_aim 4 = .ok (.iload_n 2, 1) := by decide +kernel
theorem d_V_aim_5 : decode b_V_aim 5 = .ok (.invokevirtual 178, 3) := by decide +kernel
theorem d_V_aim_8 : decode b_V_aim 8 = .ok (.aload_n 0, 1) := by decide +kernel
theorem d_V_aim_9 : decode b_V_aim 9 = .ok (.iconst 0, 1) := by decide +kernel
theorem d_V_aim_10 : decode b_V_aim 10 = .ok (.putfield 111, 3) := by decide +kernel
theorem d_V_aim_13 : decode b_V_aim 13 = .ok (.aload_n 0, 1) := by decide +kernel
theorem d_V_aim_14 : decode b_V_aim 14 = .ok (.iconst 0, 1) := by decide +kernel
theorem d_V_aim_15 : decode b_V_aim 15 = .ok (.putfield 147, 3) := by decide +kernel
theorem d_V_aim_18 : decode b_V_aim 18 = .ok (.iconst 0, 1) := by decide +kernel
theorem d_V_aim_19 : decode b_V_aim 19 = .ok (.istore_n 3, 1) := by decide +kernel
theorem d_V_aim_20 : decode b_V_aim 20 = .ok (.iload_n 3, 1) := by decide +kernel
theorem d_V_aim_21 : decode b_V_aim 21 = .ok (.aload_n 0, 1) := by decide +kernel
theorem d_V_aim_22 : decode b_V_aim 22 = .ok (.getfield 18, 3) := by decide +kernel
theorem d_V_aim_25 : decode b_V_aim 25 = .ok (.getfield 219, 3) := by decide +kernel
theorem d_V_aim_28 : decode b_V_aim 28 = .ok (.if_icmp .ge 89, 3) := by decide +kernel
theorem d_V_aim_31 : decode b_V_aim 31 = .ok (.aload_n 0, 1) := by decide +kernel
theorem d_V_aim_32 : decode b_V_aim 32 = .ok (.getfield 111, 3) := by decide +kernel
theorem d_V_aim_35 : decode b_V_aim 35 = .ok (.aload_n 0, 1) := by decide +kernel
theorem d_V_aim_36 : decode b_V_aim 36 = .ok (.getfield 18, 3) := by decide +kernel
theorem d_V_aim_39 : decode b_V_aim 39 = .ok (.getfield 222, 3) := by decide +kernel
theorem d_V_aim_42 : decode b_V_aim 42 = .ok (.if_icmp .ge 69, 3) := by decide +kernel
theorem d_V_aim_45 : decode b_V_aim 45 = .ok (.aload_n 0, 1) := by decide +kernel
theorem d_V_aim_46 : decode b_V_aim 46 = .ok (.iload_n 1, 1) := by decide +kernel
theorem d_V_aim_47 : decode b_V_aim 47 = .ok (.aload_n 0, 1) := by decide +kernel
theorem d_V_aim_48 : decode b_V_aim 48 = .ok (.getfield 18, 3) := by decide +kernel
theorem d_V_aim_51 : decode b_V_aim 51 = .ok (.getfield 184, 3) := by decide +kernel
theorem d_V_aim_54 : decode b_V_aim 54 = .ok (.iload_n 3, 1) := by decide +kernel
theorem d_V_aim_55 : decode b_V_aim 55 = .ok (.iaload, 1) := by decide +kernel
theorem d_V_aim_56 : decode b_V_aim 56 = .ok (.invokevirtual 161, 3) := by decide +kernel
theorem d_V_aim_59 : decode b_V_aim 59 = .ok (.ifCond .eq 52, 3) := by decide +kernel
theorem d_V_aim_62 : decode b_V_aim 62 = .ok (.aload_n 0, 1) := by decide +kernel
theorem d_V_aim_63 : decode b_V_aim 63 = .ok (.getfield 61, 3) := by decide +kernel
theorem d_V_aim_66 : decode b_V_aim 66 = .ok (.aload_n 0, 1) := by decide +kernel
theorem d_V_aim_67 : decode b_V_aim 67 = .ok (.getfield 111, 3) := by decide +kernel
theorem d_V_aim_70 : decode b_V_aim 70 = .ok (.aload_n 0, 1) := by decide +kernel
theorem d_V_aim_71 : decode b_V_aim 71 = .ok (.getfield 18, 3) := by decide +kernel
theorem d_V_aim_74 : decode b_V_aim 74 = .ok (.getfield 184, 3) := by decide +kernel
theorem d_V_aim_77 : decode b_V_aim 77 = .ok (.iload_n 3, 1) := by decide +kernel
theorem d_V_aim_78 : decode b_V_aim 78 = .ok (.iaload, 1) := by decide +kernel
theorem d_V_aim_79 : decode b_V_aim 79 = .ok (.iastore, 1) := by decide +kernel
theorem d_V_aim_80 : decode b_V_aim 80 = .ok (.aload_n 0, 1) := by decide +kernel
theorem d_V_aim_81 : decode b_V_aim 81 = .ok (.dup, 1) := by decide +kernel
theorem d_V_aim_82 : decode b_V_aim 82 = .ok (.getfield 111, 3) := by decide +kernel
theorem d_V_aim_85 : decode b_V_aim 85 = .ok (.iconst 1, 1) := by decide +kernel
theorem d_V_aim_86 : decode b_V_aim 86 = .ok (.iadd, 1) := by decide +kernel
theorem d_V_aim_87 : decode b_V_aim 87 = .ok (.putfield 111, 3) := by decide +kernel
theorem d_V_aim_90 : decode b_V_aim 90 = .ok (.iload_n 3, 1) := by decide +kernel
theorem d_V_aim_91 : decode b_V_aim 91 = .ok (.aload_n 0, 1) := by decide +kernel
theorem d_V_aim_92 : decode b_V_aim 92 = .ok (.getfield 18, 3) := by decide +kernel
theorem d_V_aim_95 : decode b_V_aim 95 = .ok (.getfield 181, 3) := by decide +kernel
theorem d_V_aim_98 : decode b_V_aim 98 = .ok (.if_icmp .ge 13, 3) := by decide +kernel
theorem d_V_aim_101 : decode b_V_aim 101 = .ok (.aload_n 0, 1) := by decide +kernel
theorem d_V_aim_102 : decode b_V_aim 102 = .ok (.dup, 1) := by decide +kernel
theorem d_V_aim_103 : decode b_V_aim 103 = .ok (.getfield 147, 3) := by decide +kernel
theorem d_V_aim_106 : decode b_V_aim 106 = .ok (.iconst 1, 1) := by decide +kernel
theorem d_V_aim_107 : decode b_V_aim 107 = .ok (.iadd, 1) := by decide +kernel
theorem d_V_aim_108 : decode b_V_aim 108 = .ok (.putfield 147, 3) := by decide +kernel
theorem d_V_aim_111 : decode b_V_aim 111 = .ok (.iinc 3 1, 3) := by decide +kernel
theorem d_V_aim_114 : decode b_V_aim 114 = .ok (.goto (-94), 3) := by decide +kernel
theorem d_V_aim_117 : decode b_V_aim 117 = .ok (.return_, 1) := by decide +kernel
theorem d_V_sendToHomes_0 : decode b_V_sendToHomes 0 = .ok (.iconst 0, 1) := by decide +kernel
theorem d_V_sendToHomes_1 : decode b_V_sendToHomes 1 = .ok (.istore_n 2, 1) := by decide +kernel
theorem d_V_sendToHomes_2 : decode b_V_sendToHomes 2 = .ok (.iload_n 2, 1) := by decide +kernel
theorem d_V_sendToHomes_3 : decode b_V_sendToHomes 3 = .ok (.aload_n 0, 1) := by decide +kernel
theorem d_V_sendToHomes_4 : decode b_V_sendToHomes 4 = .ok (.getfield 147, 3) := by decide +kernel
theorem d_V_sendToHomes_7 : decode b_V_sendToHomes 7 = .ok (.if_icmp .ge 25, 3) := by decide +kernel
theorem d_V_sendToHomes_10 : decode b_V_sendToHomes 10 = .ok (.aload_n 0, 1) := by decide +kernel
theorem d_V_sendToHomes_11 : decode b_V_sendToHomes 11 = .ok (.getfield 40, 3) := by decide +kernel
theorem d_V_sendToHomes_14 : decode b_V_sendToHomes 14 = .ok (.aload_n 0, 1) := by decide +kernel
theorem d_V_sendToHomes_15 : decode b_V_sendToHomes 15 = .ok (.getfield 61, 3) := by decide +kernel
theorem d_V_sendToHomes_18 : decode b_V_sendToHomes 18 = .ok (.iload_n 2, 1) := by decide +kernel
theorem d_V_sendToHomes_19 : decode b_V_sendToHomes 19 = .ok (.iaload, 1) := by decide +kernel
theorem d_V_sendToHomes_20 : decode b_V_sendToHomes 20 = .ok (.aaload, 1) := by decide +kernel
theorem d_V_sendToHomes_21 : decode b_V_sendToHomes 21 = .ok (.iload_n 1, 1) := by decide +kernel
theorem d_V_sendToHomes_22 : decode b_V_sendToHomes 22 = .ok (.invokevirtual 225, 3) := by decide +kernel
theorem d_V_sendToHomes_25 : decode b_V_sendToHomes 25 = .ok (.pop, 1) := by decide +kernel
theorem d_V_sendToHomes_26 : decode b_V_sendToHomes 26 = .ok (.iinc 2 1, 3) := by decide +kernel
theorem d_V_sendToHomes_29 : decode b_V_sendToHomes 29 = .ok (.goto (-27), 3) := by decide +kernel
theorem d_V_sendToHomes_32 : decode b_V_sendToHomes 32 = .ok (.return_, 1) := by decide +kernel
theorem d_V_leaveHints_0 : decode b_V_leaveHints 0 = .ok (.aload_n 0, 1) := by decide +kernel
theorem d_V_leaveHints_1 : decode b_V_leaveHints 1 = .ok (.getfield 147, 3) := by decide +kernel
theorem d_V_leaveHints_4 : decode b_V_leaveHints 4 = .ok (.istore_n 3, 1) := by decide +kernel
theorem d_V_leaveHints_5 : decode b_V_leaveHints 5 = .ok (.iconst 0, 1) := by decide +kernel
theorem d_V_leaveHints_6 : decode b_V_leaveHints 6 = .ok (.istore 4, 2) := by decide +kernel
theorem d_V_leaveHints_8 : decode b_V_leaveHints 8 = .ok (.iload 4, 2) := by decide +kernel
theorem d_V_leaveHints_10 : decode b_V_leaveHints 10 = .ok (.aload_n 0, 1) := by decide +kernel
theorem d_V_leaveHints_11 : decode b_V_leaveHints 11 = .ok (.getfield 18, 3) := by decide +kernel
theorem d_V_leaveHints_14 : decode b_V_leaveHints 14 = .ok (.getfield 181, 3) := by decide +kernel
theorem d_V_leaveHints_17 : decode b_V_leaveHints 17 = .ok (.if_icmp .ge 60, 3) := by decide +kernel
theorem d_V_leaveHints_20 : decode b_V_leaveHints 20 = .ok (.aload_n 0, 1) := by decide +kernel
theorem d_V_leaveHints_21 : decode b_V_leaveHints 21 = .ok (.getfield 18, 3) := by decide +kernel
theorem d_V_leaveHints_24 : decode b_V_leaveHints 24 = .ok (.getfield 184, 3) := by decide +kernel
theorem d_V_leaveHints_27 : decode b_V_leaveHints 27 = .ok (.iload 4, 2) := by decide +kernel
theorem d_V_leaveHints_29 : decode b_V_leaveHints 29 = .ok (.iaload, 1) := by decide +kernel
theorem d_V_leaveHints_30 : decode b_V_leaveHints 30 = .ok (.istore 5, 2) := by decide +kernel
theorem d_V_leaveHints_32 : decode b_V_leaveHints 32 = .ok (.iload_n 3, 1) := by decide +kernel
theorem d_V_leaveHints_33 : decode b_V_leaveHints 33 = .ok (.aload_n 0, 1) := by decide +kernel
theorem d_V_leaveHints_34 : decode b_V_leaveHints 34 = .ok (.getfield 111, 3) := by decide +kernel
theorem d_V_leaveHints_37 : decode b_V_leaveHints 37 = .ok (.if_icmp .ge 34, 3) := by decide +kernel
theorem d_V_leaveHints_40 : decode b_V_leaveHints 40 = .ok (.aload_n 0, 1) := by decide +kernel
theorem d_V_leaveHints_41 : decode b_V_leaveHints 41 = .ok (.iload_n 1, 1) := by decide +kernel
theorem d_V_leaveHints_42 : decode b_V_leaveHints 42 = .ok (.iload 5, 2) := by decide +kernel
theorem d_V_leaveHints_44 : decode b_V_leaveHints 44 = .ok (.invokevirtual 161, 3) := by decide +kernel
theorem d_V_leaveHints_47 : decode b_V_leaveHints 47 = .ok (.ifCond .ne 24, 3) := by decide +kernel
theorem d_V_leaveHints_50 : decode b_V_leaveHints 50 = .ok (.aload_n 0, 1) := by decide +kernel
theorem d_V_leaveHints_51 : decode b_V_leaveHints 51 = .ok (.getfield 40, 3) := by decide +kernel
theorem d_V_leaveHints_54 : decode b_V_leaveHints 54 = .ok (.aload_n 0, 1) := by decide +kernel
theorem d_V_leaveHints_55 : decode b_V_leaveHints 55 = .ok (.getfield 61, 3) := by decide +kernel
theorem d_V_leaveHints_58 : decode b_V_leaveHints 58 = .ok (.iload_n 3, 1) := by decide +kernel
theorem d_V_leaveHints_59 : decode b_V_leaveHints 59 = .ok (.iaload, 1) := by decide +kernel
theorem d_V_leaveHints_60 : decode b_V_leaveHints 60 = .ok (.aaload, 1) := by decide +kernel
theorem d_V_leaveHints_61 : decode b_V_leaveHints 61 = .ok (.getfield 228, 3) := by decide +kernel
theorem d_V_leaveHints_64 : decode b_V_leaveHints 64 = .ok (.iload_n 2, 1) := by decide +kernel
theorem d_V_leaveHints_65 : decode b_V_leaveHints 65 = .ok (.iload 5, 2) := by decide +kernel
theorem d_V_leaveHints_67 : decode b_V_leaveHints 67 = .ok (.iastore, 1) := by decide +kernel
theorem d_V_leaveHints_68 : decode b_V_leaveHints 68 = .ok (.iinc 3 1, 3) := by decide +kernel
theorem d_V_leaveHints_71 : decode b_V_leaveHints 71 = .ok (.iinc 4 1, 3) := by decide +kernel
theorem d_V_leaveHints_74 : decode b_V_leaveHints 74 = .ok (.goto (-66), 3) := by decide +kernel
theorem d_V_leaveHints_77 : decode b_V_leaveHints 77 = .ok (.return_, 1) := by decide +kernel
theorem d_V_lookAtTargets_0 : decode b_V_lookAtTargets 0 = .ok (.iconst 0, 1) := by decide +kernel
theorem d_V_lookAtTargets_1 : decode b_V_lookAtTargets 1 = .ok (.istore_n 2, 1) := by decide +kernel
theorem d_V_lookAtTargets_2 : decode b_V_lookAtTargets 2 = .ok (.iload_n 2, 1) := by decide +kernel
theorem d_V_lookAtTargets_3 : decode b_V_lookAtTargets 3 = .ok (.aload_n 0, 1) := by decide +kernel
theorem d_V_lookAtTargets_4 : decode b_V_lookAtTargets 4 = .ok (.getfield 34, 3) := by decide +kernel
theorem d_V_lookAtTargets_7 : decode b_V_lookAtTargets 7 = .ok (.getfield 104, 3) := by decide +kernel
theorem d_V_lookAtTargets_10 : decode b_V_lookAtTargets 10 = .ok (.if_icmp .ge 41, 3) := by decide +kernel
theorem d_V_lookAtTargets_13 : decode b_V_lookAtTargets 13 = .ok (.aload_n 0, 1) := by decide +kernel
theorem d_V_lookAtTargets_14 : decode b_V_lookAtTargets 14 = .ok (.getfield 65, 3) := by decide +kernel
theorem d_V_lookAtTargets_17 : decode b_V_lookAtTargets 17 = .ok (.iload_n 2, 1) := by decide +kernel
theorem d_V_lookAtTargets_18 : decode b_V_lookAtTargets 18 = .ok (.aload_n 0, 1) := by decide +kernel
theorem d_V_lookAtTargets_19 : decode b_V_lookAtTargets 19 = .ok (.getfield 34, 3) := by decide +kernel
theorem d_V_lookAtTargets_22 : decode b_V_lookAtTargets 22 = .ok (.getfield 200, 3) := by decide +kernel
theorem d_V_lookAtTargets_25 : decode b_V_lookAtTargets 25 = .ok (.iload_n 2, 1) := by decide +kernel
theorem d_V_lookAtTargets_26 : decode b_V_lookAtTargets 26 = .ok (.iaload, 1) := by decide +kernel
theorem d_V_lookAtTargets_27 : decode b_V_lookAtTargets 27 = .ok (.iload_n 1, 1) := by decide +kernel
theorem d_V_lookAtTargets_28 : decode b_V_lookAtTargets 28 = .ok (.if_icmp .ne 15, 3) := by decide +kernel
theorem d_V_lookAtTargets_31 : decode b_V_lookAtTargets 31 = .ok (.aload_n 0, 1) := by decide +kernel
theorem d_V_lookAtTargets_32 : decode b_V_lookAtTargets 32 = .ok (.iload_n 2, 1) := by decide +kernel
theorem d_V_lookAtTargets_33 : decode b_V_lookAtTargets 33 = .ok (.invokevirtual 231, 3) := by decide +kernel
theorem d_V_lookAtTargets_36 : decode b_V_lookAtTargets 36 = .ok (.ifCond .eq 7, 3) := by decide +kernel
theorem d_V_lookAtTargets_39 : decode b_V_lookAtTargets 39 = .ok (.iconst 1, 1) := by decide +kernel
theorem d_V_lookAtTargets_40 : decode b_V_lookAtTargets 40 = .ok (.goto 4, 3) := by decide +kernel
theorem d_V_lookAtTargets_43 : decode b_V_lookAtTargets 43 = .ok (.iconst 0, 1) := by decide +kernel
theorem d_V_lookAtTargets_44 : decode b_V_lookAtTargets 44 = .ok (.bastore, 1) := by decide +kernel
theorem d_V_lookAtTargets_45 : decode b_V_lookAtTargets 45 = .ok (.iinc 2 1, 3) := by decide +kernel
theorem d_V_lookAtTargets_48 : decode b_V_lookAtTargets 48 = .ok (.goto (-46), 3) := by decide +kernel
theorem d_V_lookAtTargets_51 : decode b_V_lookAtTargets 51 = .ok (.return_, 1) := by decide +kernel
theorem d_V_isAtSomeTarget_0 : decode b_V_isAtSomeTarget 0 = .ok (.iconst 0, 1) := by decide +kernel
theorem d_V_isAtSomeTarget_1 : decode b_V_isAtSomeTarget 1 = .ok (.istore_n 2, 1) := by decide +kernel
theorem d_V_isAtSomeTarget_2 : decode b_V_isAtSomeTarget 2 = .ok (.iload_n 2, 1) := by decide +kernel
theorem d_V_isAtSomeTarget_3 : decode b_V_isAtSomeTarget 3 = .ok (.aload_n 0, 1) := by decide +kernel
theorem d_V_isAtSomeTarget_4 : decode b_V_isAtSomeTarget 4 = .ok (.getfield 111, 3) := by decide +kernel
theorem d_V_isAtSomeTarget_7 : decode b_V_isAtSomeTarget 7 = .ok (.if_icmp .ge 40, 3) := by decide +kernel
theorem d_V_isAtSomeTarget_10 : decode b_V_isAtSomeTarget 10 = .ok (.aload_n 0, 1) := by decide +kernel
theorem d_V_isAtSomeTarget_11 : decode b_V_isAtSomeTarget 11 = .ok (.getfield 40, 3) := by decide +kernel
theorem d_V_isAtSomeTarget_14 : decode b_V_isAtSomeTarget 14 = .ok (.aload_n 0, 1) := by decide +kernel
theorem d_V_isAtSomeTarget_15 : decode b_V_isAtSomeTarget 15 = .ok (.getfield 61, 3) := by decide +kernel
theorem d_V_isAtSomeTarget_18 : decode b_V_isAtSomeTarget 18 = .ok (.iload_n 2, 1) := by decide +kernel
theorem d_V_isAtSomeTarget_19 : decode b_V_isAtSomeTarget 19 = .ok (.iaload, 1) := by decide +kernel
theorem d_V_isAtSomeTarget_20 : decode b_V_isAtSomeTarget 20 = .ok (.aaload, 1) := by decide +kernel
theorem d_V_isAtSomeTarget_21 : decode b_V_isAtSomeTarget 21 = .ok (.astore_n 3, 1) := by decide +kernel
theorem d_V_isAtSomeTarget_22 : decode b_V_isAtSomeTarget 22 = .ok (.aload_n 3, 1) := by decide +kernel
theorem d_V_isAtSomeTarget_23 : decode b_V_isAtSomeTarget 23 = .ok (.getfield 190, 3) := by decide +kernel
theorem d_V_isAtSomeTarget_26 : decode b_V_isAtSomeTarget 26 = .ok (.iload_n 1, 1) := by decide +kernel
theorem d_V_isAtSomeTarget_27 : decode b_V_isAtSomeTarget 27 = .ok (.baload, 1) := by decide +kernel
end
section
theorem d_V_isAtSomeTarget_28 : decode b_V_isAtSomeTarget 28 = .ok (.ifCond .ne 11, 3) := by decide +kernel
theorem d_V_isAtSomeTarget_31 : decode b_V_isAtSomeTarget 31 = .ok (.aload_n 3, 1) := by decide +kernel
theorem d_V_isAtSomeTarget_32 : decode b_V_isAtSomeTarget 32 = .ok (.iload_n 1, 1) := by decide +kernel
theorem d_V_isAtSomeTarget_33 : decode b_V_isAtSomeTarget 33 = .ok (.invokevirtual 193, 3) := by decide +kernel
theorem d_V_isAtSomeTarget_36 : decode b_V_isAtSomeTarget 36 = .ok (.ifCond .eq 5, 3) := by decide +kernel
theorem d_V_isAtSomeTarget_39 : decode b_V_isAtSomeTarget 39 = .ok (.iconst 1, 1) := by decide +kernel
theorem d_V_isAtSomeTarget_40 : decode b_V_isAtSomeTarget 40 = .ok (.ireturn, 1) := by decide +kernel
theorem d_V_isAtSomeTarget_41 : decode b_V_isAtSomeTarget 41 = .ok (.iinc 2 1, 3) := by decide +kernel
theorem d_V_isAtSomeTarget_44 : decode b_V_isAtSomeTarget 44 = .ok (.goto (-42), 3) := by decide +kernel
theorem d_V_isAtSomeTarget_47 : decode b_V_isAtSomeTarget 47 = .ok (.iconst 0, 1) := by decide +kernel
theorem d_V_isAtSomeTarget_48 : decode b_V_isAtSomeTarget 48 = .ok (.ireturn, 1) := by decide +kernel
theorem d_V_keepLatest_0 : decode b_V_keepLatest 0 = .ok (.iconst 0, 1) := by decide +kernel
theorem d_V_keepLatest_1 : decode b_V_keepLatest 1 = .ok (.istore_n 1, 1) := by decide +kernel
theorem d_V_keepLatest_2 : decode b_V_keepLatest 2 = .ok (.iconst 0, 1) := by decide +kernel
theorem d_V_keepLatest_3 : decode b_V_keepLatest 3 = .ok (.istore_n 2, 1) := by decide +kernel
theorem d_V_keepLatest_4 : decode b_V_keepLatest 4 = .ok (.iload_n 2, 1) := by decide +kernel
theorem d_V_keepLatest_5 : decode b_V_keepLatest 5 = .ok (.aload_n 0, 1) := by decide +kernel
theorem d_V_keepLatest_6 : decode b_V_keepLatest 6 = .ok (.getfield 34, 3) := by decide +kernel
theorem d_V_keepLatest_9 : decode b_V_keepLatest 9 = .ok (.getfield 104, 3) := by decide +kernel
theorem d_V_keepLatest_12 : decode b_V_keepLatest 12 = .ok (.if_icmp .ge 49, 3) := by decide +kernel
theorem d_V_keepLatest_15 : decode b_V_keepLatest 15 = .ok (.aload_n 0, 1) := by decide +kernel
theorem d_V_keepLatest_16 : decode b_V_keepLatest 16 = .ok (.getfield 58, 3) := by decide +kernel
theorem d_V_keepLatest_19 : decode b_V_keepLatest 19 = .ok (.iload_n 2, 1) := by decide +kernel
theorem d_V_keepLatest_20 : decode b_V_keepLatest 20 = .ok (.aload_n 0, 1) := by decide +kernel
theorem d_V_keepLatest_21 : decode b_V_keepLatest 21 = .ok (.getfield 65, 3) := by decide +kernel
theorem d_V_keepLatest_24 : decode b_V_keepLatest 24 = .ok (.iload_n 2, 1) := by decide +kernel
theorem d_V_keepLatest_25 : decode b_V_keepLatest 25 = .ok (.baload, 1) := by decide +kernel
theorem d_V_keepLatest_26 : decode b_V_keepLatest 26 = .ok (.ifCond .eq 15, 3) := by decide +kernel
theorem d_V_keepLatest_29 : decode b_V_keepLatest 29 = .ok (.aload_n 0, 1) := by decide +kernel
theorem d_V_keepLatest_30 : decode b_V_keepLatest 30 = .ok (.iload_n 2, 1) := by decide +kernel
theorem d_V_keepLatest_31 : decode b_V_keepLatest 31 = .ok (.invokevirtual 234, 3) := by decide +kernel
theorem d_V_keepLatest_34 : decode b_V_keepLatest 34 = .ok (.ifCond .ne 7, 3) := by decide +kernel
theorem d_V_keepLatest_37 : decode b_V_keepLatest 37 = .ok (.iconst 1, 1) := by decide +kernel
theorem d_V_keepLatest_38 : decode b_V_keepLatest 38 = .ok (.goto 4, 3) := by decide +kernel
theorem d_V_keepLatest_41 : decode b_V_keepLatest 41 = .ok (.iconst 0, 1) := by decide +kernel
theorem d_V_keepLatest_42 : decode b_V_keepLatest 42 = .ok (.bastore, 1) := by decide +kernel
theorem d_V_keepLatest_43 : decode b_V_keepLatest 43 = .ok (.aload_n 0, 1) := by decide +kernel
theorem d_V_keepLatest_44 : decode b_V_keepLatest 44 = .ok (.getfield 58, 3) := by decide +kernel
theorem d_V_keepLatest_47 : decode b_V_keepLatest 47 = .ok (.iload_n 2, 1) := by decide +kernel
theorem d_V_keepLatest_48 : decode b_V_keepLatest 48 = .ok (.baload, 1) := by decide +kernel
theorem d_V_keepLatest_49 : decode b_V_keepLatest 49 = .ok (.ifCond .eq 6, 3) := by decide +kernel
theorem d_V_keepLatest_52 : decode b_V_keepLatest 52 = .ok (.iinc 1 1, 3) := by decide +kernel
theorem d_V_keepLatest_55 : decode b_V_keepLatest 55 = .ok (.iinc 2 1, 3) := by decide +kernel
theorem d_V_keepLatest_58 : decode b_V_keepLatest 58 = .ok (.goto (-54), 3) := by decide +kernel
theorem d_V_keepLatest_61 : decode b_V_keepLatest 61 = .ok (.iload_n 1, 1) := by decide +kernel
theorem d_V_keepLatest_62 : decode b_V_keepLatest 62 = .ok (.ireturn, 1) := by decide +kernel
theorem d_V_isPassedBySeen_0 : decode b_V_isPassedBySeen 0 = .ok (.iconst 0, 1) := by decide +kernel
theorem d_V_isPassedBySeen_1 : decode b_V_isPassedBySeen 1 = .ok (.istore_n 2, 1) := by decide +kernel
theorem d_V_isPassedBySeen_2 : decode b_V_isPassedBySeen 2 = .ok (.iload_n 2, 1) := by decide +kernel
theorem d_V_isPassedBySeen_3 : decode b_V_isPassedBySeen 3 = .ok (.aload_n 0, 1) := by decide +kernel
theorem d_V_isPassedBySeen_4 : decode b_V_isPassedBySeen 4 = .ok (.getfield 34, 3) := by decide +kernel
theorem d_V_isPassedBySeen_7 : decode b_V_isPassedBySeen 7 = .ok (.getfield 104, 3) := by decide +kernel
theorem d_V_isPassedBySeen_10 : decode b_V_isPassedBySeen 10 = .ok (.if_icmp .ge 37, 3) := by decide +kernel
theorem d_V_isPassedBySeen_13 : decode b_V_isPassedBySeen 13 = .ok (.iload_n 2, 1) := by decide +kernel
theorem d_V_isPassedBySeen_14 : decode b_V_isPassedBySeen 14 = .ok (.iload_n 1, 1) := by decide +kernel
theorem d_V_isPassedBySeen_15 : decode b_V_isPassedBySeen 15 = .ok (.if_icmp .eq 26, 3) := by decide +kernel
theorem d_V_isPassedBySeen_18 : decode b_V_isPassedBySeen 18 = .ok (.aload_n 0, 1) := by decide +kernel
theorem d_V_isPassedBySeen_19 : decode b_V_isPassedBySeen 19 = .ok (.getfield 65, 3) := by decide +kernel
theorem d_V_isPassedBySeen_22 : decode b_V_isPassedBySeen 22 = .ok (.iload_n 2, 1) := by decide +kernel
theorem d_V_isPassedBySeen_23 : decode b_V_isPassedBySeen 23 = .ok (.baload, 1) := by decide +kernel
theorem d_V_isPassedBySeen_24 : decode b_V_isPassedBySeen 24 = .ok (.ifCond .eq 17, 3) := by decide +kernel
theorem d_V_isPassedBySeen_27 : decode b_V_isPassedBySeen 27 = .ok (.aload_n 0, 1) := by decide +kernel
theorem d_V_isPassedBySeen_28 : decode b_V_isPassedBySeen 28 = .ok (.getfield 34, 3) := by decide +kernel
theorem d_V_isPassedBySeen_31 : decode b_V_isPassedBySeen 31 = .ok (.iload_n 1, 1) := by decide +kernel
theorem d_V_isPassedBySeen_32 : decode b_V_isPassedBySeen 32 = .ok (.iload_n 2, 1) := by decide +kernel
theorem d_V_isPassedBySeen_33 : decode b_V_isPassedBySeen 33 = .ok (.invokevirtual 237, 3) := by decide +kernel
theorem d_V_isPassedBySeen_36 : decode b_V_isPassedBySeen 36 = .ok (.ifCond .eq 5, 3) := by decide +kernel
theorem d_V_isPassedBySeen_39 : decode b_V_isPassedBySeen 39 = .ok (.iconst 1, 1) := by decide +kernel
theorem d_V_isPassedBySeen_40 : decode b_V_isPassedBySeen 40 = .ok (.ireturn, 1) := by decide +kernel
theorem d_V_isPassedBySeen_41 : decode b_V_isPassedBySeen 41 = .ok (.iinc 2 1, 3) := by decide +kernel
theorem d_V_isPassedBySeen_44 : decode b_V_isPassedBySeen 44 = .ok (.goto (-42), 3) := by decide +kernel
theorem d_V_isPassedBySeen_47 : decode b_V_isPassedBySeen 47 = .ok (.iconst 0, 1) := by decide +kernel
theorem d_V_isPassedBySeen_48 : decode b_V_isPassedBySeen 48 = .ok (.ireturn, 1) := by decide +kernel
theorem d_V_handOverHints_0 : decode b_V_handOverHints 0 = .ok (.aload_n 0, 1) := by decide +kernel
theorem d_V_handOverHints_1 : decode b_V_handOverHints 1 = .ok (.getfield 40, 3) := by decide +kernel
theorem d_V_handOverHints_4 : decode b_V_handOverHints 4 = .ok (.iload_n 1, 1) := by decide +kernel
theorem d_V_handOverHints_5 : decode b_V_handOverHints 5 = .ok (.aaload, 1) := by decide +kernel
theorem d_V_handOverHints_6 : decode b_V_handOverHints 6 = .ok (.astore_n 2, 1) := by decide +kernel
theorem d_V_handOverHints_7 : decode b_V_handOverHints 7 = .ok (.iconst 0, 1) := by decide +kernel
theorem d_V_handOverHints_8 : decode b_V_handOverHints 8 = .ok (.istore_n 3, 1) := by decide +kernel
theorem d_V_handOverHints_9 : decode b_V_handOverHints 9 = .ok (.iconst 0, 1) := by decide +kernel
theorem d_V_handOverHints_10 : decode b_V_handOverHints 10 = .ok (.istore 4, 2) := by decide +kernel
theorem d_V_handOverHints_12 : decode b_V_handOverHints 12 = .ok (.iload 4, 2) := by decide +kernel
theorem d_V_handOverHints_14 : decode b_V_handOverHints 14 = .ok (.aload_n 0, 1) := by decide +kernel
theorem d_V_handOverHints_15 : decode b_V_handOverHints 15 = .ok (.getfield 34, 3) := by decide +kernel
theorem d_V_handOverHints_18 : decode b_V_handOverHints 18 = .ok (.getfield 104, 3) := by decide +kernel
theorem d_V_handOverHints_21 : decode b_V_handOverHints 21 = .ok (.if_icmp .ge 62, 3) := by decide +kernel
theorem d_V_handOverHints_24 : decode b_V_handOverHints 24 = .ok (.aload_n 2, 1) := by decide +kernel
theorem d_V_handOverHints_25 : decode b_V_handOverHints 25 = .ok (.iload 4, 2) := by decide +kernel
theorem d_V_handOverHints_27 : decode b_V_handOverHints 27 = .ok (.invokevirtual 193, 3) := by decide +kernel
theorem d_V_handOverHints_30 : decode b_V_handOverHints 30 = .ok (.ifCond .eq 47, 3) := by decide +kernel
theorem d_V_handOverHints_33 : decode b_V_handOverHints 33 = .ok (.aload_n 0, 1) := by decide +kernel
theorem d_V_handOverHints_34 : decode b_V_handOverHints 34 = .ok (.iload_n 1, 1) := by decide +kernel
theorem d_V_handOverHints_35 : decode b_V_handOverHints 35 = .ok (.aload_n 2, 1) := by decide +kernel
theorem d_V_handOverHints_36 : decode b_V_handOverHints 36 = .ok (.getfield 228, 3) := by decide +kernel
theorem d_V_handOverHints_39 : decode b_V_handOverHints 39 = .ok (.iload 4, 2) := by decide +kernel
theorem d_V_handOverHints_41 : decode b_V_handOverHints 41 = .ok (.iaload, 1) := by decide +kernel
theorem d_V_handOverHints_42 : decode b_V_handOverHints 42 = .ok (.invokevirtual 161, 3) := by decide +kernel
theorem d_V_handOverHints_45 : decode b_V_handOverHints 45 = .ok (.ifCond .eq 32, 3) := by decide +kernel
theorem d_V_handOverHints_48 : decode b_V_handOverHints 48 = .ok (.aload_n 0, 1) := by decide +kernel
theorem d_V_handOverHints_49 : decode b_V_handOverHints 49 = .ok (.getfield 40, 3) := by decide +kernel
theorem d_V_handOverHints_52 : decode b_V_handOverHints 52 = .ok (.aload_n 2, 1) := by decide +kernel
theorem d_V_handOverHints_53 : decode b_V_handOverHints 53 = .ok (.getfield 228, 3) := by decide +kernel
theorem d_V_handOverHints_56 : decode b_V_handOverHints 56 = .ok (.iload 4, 2) := by decide +kernel
theorem d_V_handOverHints_58 : decode b_V_handOverHints 58 = .ok (.iaload, 1) := by decide +kernel
theorem d_V_handOverHints_59 : decode b_V_handOverHints 59 = .ok (.aaload, 1) := by decide +kernel
theorem d_V_handOverHints_60 : decode b_V_handOverHints 60 = .ok (.iload 4, 2) := by decide +kernel
theorem d_V_handOverHints_62 : decode b_V_handOverHints 62 = .ok (.invokevirtual 225, 3) := by decide +kernel
theorem d_V_handOverHints_65 : decode b_V_handOverHints 65 = .ok (.pop, 1) := by decide +kernel
theorem d_V_handOverHints_66 : decode b_V_handOverHints 66 = .ok (.aload_n 2, 1) := by decide +kernel
theorem d_V_handOverHints_67 : decode b_V_handOverHints 67 = .ok (.getfield 228, 3) := by decide +kernel
theorem d_V_handOverHints_70 : decode b_V_handOverHints 70 = .ok (.iload 4, 2) := by decide +kernel
theorem d_V_handOverHints_72 : decode b_V_handOverHints 72 = .ok (.iconst (-1), 1) := by decide +kernel
theorem d_V_handOverHints_73 : decode b_V_handOverHints 73 = .ok (.iastore, 1) := by decide +kernel
theorem d_V_handOverHints_74 : decode b_V_handOverHints 74 = .ok (.iinc 3 1, 3) := by decide +kernel
theorem d_V_handOverHints_77 : decode b_V_handOverHints 77 = .ok (.iinc 4 1, 3) := by decide +kernel
theorem d_V_handOverHints_80 : decode b_V_handOverHints 80 = .ok (.goto (-68), 3) := by decide +kernel
theorem d_V_handOverHints_83 : decode b_V_handOverHints 83 = .ok (.iload_n 3, 1) := by decide +kernel
theorem d_V_handOverHints_84 : decode b_V_handOverHints 84 = .ok (.ireturn, 1) := by decide +kernel
theorem d_V_handOverKey_0 : decode b_V_handOverKey 0 = .ok (.aload_n 0, 1) := by decide +kernel
theorem d_V_handOverKey_1 : decode b_V_handOverKey 1 = .ok (.getfield 40, 3) := by decide +kernel
theorem d_V_handOverKey_4 : decode b_V_handOverKey 4 = .ok (.iload_n 1, 1) := by decide +kernel
theorem d_V_handOverKey_5 : decode b_V_handOverKey 5 = .ok (.aaload, 1) := by decide +kernel
theorem d_V_handOverKey_6 : decode b_V_handOverKey 6 = .ok (.iload_n 2, 1) := by decide +kernel
theorem d_V_handOverKey_7 : decode b_V_handOverKey 7 = .ok (.aload_n 0, 1) := by decide +kernel
theorem d_V_handOverKey_8 : decode b_V_handOverKey 8 = .ok (.getfield 68, 3) := by decide +kernel
theorem d_V_handOverKey_11 : decode b_V_handOverKey 11 = .ok (.invokevirtual 196, 3) := by decide +kernel
theorem d_V_handOverKey_14 : decode b_V_handOverKey 14 = .ok (.istore_n 3, 1) := by decide +kernel
theorem d_V_handOverKey_15 : decode b_V_handOverKey 15 = .ok (.iload_n 3, 1) := by decide +kernel
theorem d_V_handOverKey_16 : decode b_V_handOverKey 16 = .ok (.ifCond .ne 5, 3) := by decide +kernel
theorem d_V_handOverKey_19 : decode b_V_handOverKey 19 = .ok (.iconst 0, 1) := by decide +kernel
theorem d_V_handOverKey_20 : decode b_V_handOverKey 20 = .ok (.ireturn, 1) := by decide +kernel
theorem d_V_handOverKey_21 : decode b_V_handOverKey 21 = .ok (.aload_n 0, 1) := by decide +kernel
theorem d_V_handOverKey_22 : decode b_V_handOverKey 22 = .ok (.getfield 18, 3) := by decide +kernel
theorem d_V_handOverKey_25 : decode b_V_handOverKey 25 = .ok (.iload_n 2, 1) := by decide +kernel
theorem d_V_handOverKey_26 : decode b_V_handOverKey 26 = .ok (.invokevirtual 178, 3) := by decide +kernel
theorem d_V_handOverKey_29 : decode b_V_handOverKey 29 = .ok (.aload_n 0, 1) := by decide +kernel
theorem d_V_handOverKey_30 : decode b_V_handOverKey 30 = .ok (.getfield 18, 3) := by decide +kernel
theorem d_V_handOverKey_33 : decode b_V_handOverKey 33 = .ok (.getfield 181, 3) := by decide +kernel
theorem d_V_handOverKey_36 : decode b_V_handOverKey 36 = .ok (.ifCond .eq 22, 3) := by decide +kernel
theorem d_V_handOverKey_39 : decode b_V_handOverKey 39 = .ok (.aload_n 0, 1) := by decide +kernel
theorem d_V_handOverKey_40 : decode b_V_handOverKey 40 = .ok (.getfield 18, 3) := by decide +kernel
theorem d_V_handOverKey_43 : decode b_V_handOverKey 43 = .ok (.iload_n 1, 1) := by decide +kernel
theorem d_V_handOverKey_44 : decode b_V_handOverKey 44 = .ok (.invokevirtual 240, 3) := by decide +kernel
theorem d_V_handOverKey_47 : decode b_V_handOverKey 47 = .ok (.ifCond .ne 11, 3) := by decide +kernel
theorem d_V_handOverKey_50 : decode b_V_handOverKey 50 = .ok (.aload_n 0, 1) := by decide +kernel
theorem d_V_handOverKey_51 : decode b_V_handOverKey 51 = .ok (.iload_n 1, 1) := by decide +kernel
theorem d_V_handOverKey_52 : decode b_V_handOverKey 52 = .ok (.invokevirtual 243, 3) := by decide +kernel
theorem d_V_handOverKey_55 : decode b_V_handOverKey 55 = .ok (.ifCond .ne 5, 3) := by decide +kernel
theorem d_V_handOverKey_58 : decode b_V_handOverKey 58 = .ok (.iconst 0, 1) := by decide +kernel
theorem d_V_handOverKey_59 : decode b_V_handOverKey 59 = .ok (.ireturn, 1) := by decide +kernel
theorem d_V_handOverKey_60 : decode b_V_handOverKey 60 = .ok (.iconst 0, 1) := by decide +kernel
theorem d_V_handOverKey_61 : decode b_V_handOverKey 61 = .ok (.istore 4, 2) := by decide +kernel
theorem d_V_handOverKey_63 : decode b_V_handOverKey 63 = .ok (.iload 4, 2) := by decide +kernel
theorem d_V_handOverKey_65 : decode b_V_handOverKey 65 = .ok (.aload_n 0, 1) := by decide +kernel
theorem d_V_handOverKey_66 : decode b_V_handOverKey 66 = .ok (.getfield 18, 3) := by decide +kernel
theorem d_V_handOverKey_69 : decode b_V_handOverKey 69 = .ok (.getfield 181, 3) := by decide +kernel
theorem d_V_handOverKey_72 : decode b_V_handOverKey 72 = .ok (.if_icmp .ge 32, 3) := by decide +kernel
theorem d_V_handOverKey_75 : decode b_V_handOverKey 75 = .ok (.aload_n 0, 1) := by decide +kernel
theorem d_V_handOverKey_76 : decode b_V_handOverKey 76 = .ok (.getfield 40, 3) := by decide +kernel
theorem d_V_handOverKey_79 : decode b_V_handOverKey 79 = .ok (.aload_n 0, 1) := by decide +kernel
theorem d_V_handOverKey_80 : decode b_V_handOverKey 80 = .ok (.getfield 18, 3) := by decide +kernel
theorem d_V_handOverKey_83 : decode b_V_handOverKey 83 = .ok (.getfield 184, 3) := by decide +kernel
theorem d_V_handOverKey_86 : decode b_V_handOverKey 86 = .ok (.iload 4, 2) := by decide +kernel
theorem d_V_handOverKey_88 : decode b_V_handOverKey 88 = .ok (.iaload, 1) := by decide +kernel
theorem d_V_handOverKey_89 : decode b_V_handOverKey 89 = .ok (.aaload, 1) := by decide +kernel
theorem d_V_handOverKey_90 : decode b_V_handOverKey 90 = .ok (.aload_n 0, 1) := by decide +kernel
theorem d_V_handOverKey_91 : decode b_V_handOverKey 91 = .ok (.getfield 68, 3) := by decide +kernel
theorem d_V_handOverKey_94 : decode b_V_handOverKey 94 = .ok (.invokevirtual 150, 3) := by decide +kernel
theorem d_V_handOverKey_97 : decode b_V_handOverKey 97 = .ok (.pop, 1) := by decide +kernel
theorem d_V_handOverKey_98 : decode b_V_handOverKey 98 = .ok (.iinc 4 1, 3) := by decide +kernel
theorem d_V_handOverKey_101 : decode b_V_handOverKey 101 = .ok (.goto (-38), 3) := by decide +kernel
theorem d_V_handOverKey_104 : decode b_V_handOverKey 104 = .ok (.aload_n 0, 1) := by decide +kernel
theorem d_V_handOverKey_105 : decode b_V_handOverKey 105 = .ok (.getfield 40, 3) := by decide +kernel
theorem d_V_handOverKey_108 : decode b_V_handOverKey 108 = .ok (.iload_n 1, 1) := by decide +kernel
theorem d_V_handOverKey_109 : decode b_V_handOverKey 109 = .ok (.aaload, 1) := by decide +kernel
theorem d_V_handOverKey_110 : decode b_V_handOverKey 110 = .ok (.aload_n 0, 1) := by decide +kernel
theorem d_V_handOverKey_111 : decode b_V_handOverKey 111 = .ok (.getfield 68, 3) := by decide +kernel
theorem d_V_handOverKey_114 : decode b_V_handOverKey 114 = .ok (.invokevirtual 246, 3) := by decide +kernel
theorem d_V_handOverKey_117 : decode b_V_handOverKey 117 = .ok (.iload_n 3, 1) := by decide +kernel
theorem d_V_handOverKey_118 : decode b_V_handOverKey 118 = .ok (.ireturn, 1) := by decide +kernel
theorem d_V_reachesAllHomes_0 : decode b_V_reachesAllHomes 0 = .ok (.iconst 0, 1) := by decide +kernel
theorem d_V_reachesAllHomes_1 : decode b_V_reachesAllHomes 1 = .ok (.istore_n 2, 1) := by decide +kernel
theorem d_V_reachesAllHomes_2 : decode b_V_reachesAllHomes 2 = .ok (.iload_n 2, 1) := by decide +kernel
theorem d_V_reachesAllHomes_3 : decode b_V_reachesAllHomes 3 = .ok (.aload_n 0, 1) := by decide +kernel
theorem d_V_reachesAllHomes_4 : decode b_V_reachesAllHomes 4 = .ok (.getfield 18, 3) := by decide +kernel
theorem d_V_reachesAllHomes_7 : decode b_V_reachesAllHomes 7 = .ok (.getfield 181, 3) := by decide +kernel
theorem d_V_reachesAllHomes_10 : decode b_V_reachesAllHomes 10 = .ok (.if_icmp .ge 28, 3) := by decide +kernel
theorem d_V_reachesAllHomes_13 : decode b_V_reachesAllHomes 13 = .ok (.aload_n 0, 1) := by decide +kernel
theorem d_V_reachesAllHomes_14 : decode b_V_reachesAllHomes 14 = .ok (.iload_n 1, 1) := by decide +kernel
theorem d_V_reachesAllHomes_15 : decode b_V_reachesAllHomes 15 = .ok (.aload_n 0, 1) := by decide +kernel
theorem d_V_reachesAllHomes_16 : decode b_V_reachesAllHomes 16 = .ok (.getfield 18, 3) := by decide +kernel
theorem d_V_reachesAllHomes_19 : decode b_V_reachesAllHomes 19 = .ok (.getfield 184, 3) := by decide +kernel
theorem d_V_reachesAllHomes_22 : decode b_V_reachesAllHomes 22 = .ok (.iload_n 2, 1) := by decide +kernel
theorem d_V_reachesAllHomes_23 : decode b_V_reachesAllHomes 23 = .ok (.iaload, 1) := by decide +kernel
theorem d_V_reachesAllHomes_24 : decode b_V_reachesAllHomes 24 = .ok (.invokevirtual 161, 3) := by decide +kernel
theorem d_V_reachesAllHomes_27 : decode b_V_reachesAllHomes 27 = .ok (.ifCond .ne 5, 3) := by decide +kernel
theorem d_V_reachesAllHomes_30 : decode b_V_reachesAllHomes 30 = .ok (.iconst 0, 1) := by decide +kernel
theorem d_V_reachesAllHomes_31 : decode b_V_reachesAllHomes 31 = .ok (.ireturn, 1) := by decide +kernel
theorem d_V_reachesAllHomes_32 : decode b_V_reachesAllHomes 32 = .ok (.iinc 2 1, 3) := by decide +kernel
theorem d_V_reachesAllHomes_35 : decode b_V_reachesAllHomes 35 = .ok (.goto (-33), 3) := by decide +kernel
theorem d_V_reachesAllHomes_38 : decode b_V_reachesAllHomes 38 = .ok (.iconst 1, 1) := by decide +kernel
theorem d_V_reachesAllHomes_39 : decode b_V_reachesAllHomes 39 = .ok (.ireturn, 1) := by decide +kernel
theorem d_V_share_0 : decode b_V_share 0 = .ok (.aload_n 0, 1) := by decide +kernel
theorem d_V_share_1 : decode b_V_share 1 = .ok (.getfield 18, 3) := by decide +kernel
theorem d_V_share_4 : decode b_V_share 4 = .ok (.iload_n 3, 1) := by decide +kernel
theorem d_V_share_5 : decode b_V_share 5 = .ok (.invokevirtual 178, 3) := by decide +kernel
theorem d_V_share_8 : decode b_V_share 8 = .ok (.aload_n 0, 1) := by decide +kernel
theorem d_V_share_9 : decode b_V_share 9 = .ok (.getfield 18, 3) := by decide +kernel
theorem d_V_share_12 : decode b_V_share 12 = .ok (.iload_n 1, 1) := by decide +kernel
theorem d_V_share_13 : decode b_V_share 13 = .ok (.invokevirtual 240, 3) := by decide +kernel
theorem d_V_share_16 : decode b_V_share 16 = .ok (.ifCond .eq 18, 3) := by decide +kernel
theorem d_V_share_19 : decode b_V_share 19 = .ok (.aload_n 0, 1) := by decide +kernel
theorem d_V_share_20 : decode b_V_share 20 = .ok (.getfield 18, 3) := by decide +kernel
theorem d_V_share_23 : decode b_V_share 23 = .ok (.iload_n 2, 1) := by decide +kernel
theorem d_V_share_24 : decode b_V_share 24 = .ok (.invokevirtual 240, 3) := by decide +kernel
theorem d_V_share_27 : decode b_V_share 27 = .ok (.ifCond .eq 7, 3) := by decide +kernel
theorem d_V_share_30 : decode b_V_share 30 = .ok (.iconst 1, 1) := by decide +kernel
theorem d_V_share_31 : decode b_V_share 31 = .ok (.goto 4, 3) := by decide +kernel
theorem d_V_share_34 : decode b_V_share 34 = .ok (.iconst 0, 1) := by decide +kernel
theorem d_V_share_35 : decode b_V_share 35 = .ok (.ireturn, 1) := by decide +kernel
theorem d_V_differ_0 : decode b_V_differ 0 = .ok (.iconst 0, 1) := by decide +kernel
theorem d_V_differ_1 : decode b_V_differ 1 = .ok (.istore 4, 2) := by decide +kernel
theorem d_V_differ_3 : decode b_V_differ 3 = .ok (.iload 4, 2) := by decide +kernel
theorem d_V_differ_5 : decode b_V_differ 5 = .ok (.aload_n 0, 1) := by decide +kernel
theorem d_V_differ_6 : decode b_V_differ 6 = .ok (.getfield 34, 3) := by decide +kernel
theorem d_V_differ_9 : decode b_V_differ 9 = .ok (.getfield 104, 3) := by decide +kernel
theorem d_V_differ_12 : decode b_V_differ 12 = .ok (.if_icmp .ge 52, 3) := by decide +kernel
theorem d_V_differ_15 : decode b_V_differ 15 = .ok (.aload_n 0, 1) := by decide +kernel
theorem d_V_differ_16 : decode b_V_differ 16 = .ok (.getfield 34, 3) := by decide +kernel
theorem d_V_differ_19 : decode b_V_differ 19 = .ok (.getfield 200, 3) := by decide +kernel
theorem d_V_differ_22 : decode b_V_differ 22 = .ok (.iload 4, 2) := by decide +kernel
theorem d_V_differ_24 : decode b_V_differ 24 = .ok (.iaload, 1) := by decide +kernel
theorem d_V_differ_25 : decode b_V_differ 25 = .ok (.iload_n 3, 1) := by decide +kernel
theorem d_V_differ_26 : decode b_V_differ 26 = .ok (.if_icmp .ne 32, 3) := by decide +kernel
theorem d_V_differ_29 : decode b_V_differ 29 = .ok (.aload_n 0, 1) := by decide +kernel
theorem d_V_differ_30 : decode b_V_differ 30 = .ok (.getfield 40, 3) := by decide +kernel
theorem d_V_differ_33 : decode b_V_differ 33 = .ok (.iload_n 1, 1) := by decide +kernel
theorem d_V_differ_34 : decode b_V_differ 34 = .ok (.aaload, 1) := by decide +kernel
theorem d_V_differ_35 : decode b_V_differ 35 = .ok (.getfield 190, 3) := by decide +kernel
theorem d_V_differ_38 : decode b_V_differ 38 = .ok (.iload 4, 2) := by decide +kernel
theorem d_V_differ_40 : decode b_V_differ 40 = .ok (.baload, 1) := by decide +kernel
theorem d_V_differ_41 : decode b_V_differ 41 = .ok (.aload_n 0, 1) := by decide +kernel
theorem d_V_differ_42 : decode b_V_differ 42 = .ok (.getfield 40, 3) := by decide +kernel
theorem d_V_differ_45 : decode b_V_differ 45 = .ok (.iload_n 2, 1) := by decide +kernel
theorem d_V_differ_46 : decode b_V_differ 46 = .ok (.aaload, 1) := by decide +kernel
theorem d_V_differ_47 : decode b_V_differ 47 = .ok (.getfield 190, 3) := by decide +kernel
theorem d_V_differ_50 : decode b_V_differ 50 = .ok (.iload 4, 2) := by decide +kernel
theorem d_V_differ_52 : decode b_V_differ 52 = .ok (.baload, 1) := by decide +kernel
theorem d_V_differ_53 : decode b_V_differ 53 = .ok (.if_icmp .eq 5, 3) := by decide +kernel
theorem d_V_differ_56 : decode b_V_differ 56 = .ok (.iconst 1, 1) := by decide +kernel
theorem d_V_differ_57 : decode b_V_differ 57 = .ok (.ireturn, 1) := by decide +kernel
theorem d_V_differ_58 : decode b_V_differ 58 = .ok (.iinc 4 1, 3) := by decide +kernel
theorem d_V_differ_61 : decode b_V_differ 61 = .ok (.goto (-58), 3) := by decide +kernel
theorem d_V_differ_64 : decode b_V_differ 64 = .ok (.iconst 0, 1) := by decide +kernel
theorem d_V_differ_65 : decode b_V_differ 65 = .ok (.ireturn, 1) := by decide +kernel
theorem d_V_exchange_0 : decode b_V_exchange 0 = .ok (.aload_n 0, 1) := by decide +kernel
theorem d_V_exchange_1 : decode b_V_exchange 1 = .ok (.getfield 40, 3) := by decide +kernel
theorem d_V_exchange_4 : decode b_V_exchange 4 = .ok (.iload_n 1, 1) := by decide +kernel
theorem d_V_exchange_5 : decode b_V_exchange 5 = .ok (.aaload, 1) := by decide +kernel
theorem d_V_exchange_6 : decode b_V_exchange 6 = .ok (.iload_n 3, 1) := by decide +kernel
theorem d_V_exchange_7 : decode b_V_exchange 7 = .ok (.aload_n 0, 1) := by decide +kernel
theorem d_V_exchange_8 : decode b_V_exchange 8 = .ok (.getfield 68, 3) := by decide +kernel
theorem d_V_exchange_11 : decode b_V_exchange 11 = .ok (.invokevirtual 196, 3) := by decide +kernel
theorem d_V_exchange_14 : decode b_V_exchange 14 = .ok (.pop, 1) := by decide +kernel
theorem d_V_exchange_15 : decode b_V_exchange 15 = .ok (.aload_n 0, 1) := by decide +kernel
theorem d_V_exchange_16 : decode b_V_exchange 16 = .ok (.getfield 40, 3) := by decide +kernel
theorem d_V_exchange_19 : decode b_V_exchange 19 = .ok (.iload_n 2, 1) := by decide +kernel
theorem d_V_exchange_20 : decode b_V_exchange 20 = .ok (.aaload, 1) := by decide +kernel
theorem d_V_exchange_21 : decode b_V_exchange 21 = .ok (.iload_n 3, 1) := by decide +kernel
theorem d_V_exchange_22 : decode b_V_exchange 22 = .ok (.aload_n 0, 1) := by decide +kernel
theorem d_V_exchange_23 : decode b_V_exchange 23 = .ok (.getfield 71, 3) := by decide +kernel
theorem d_V_exchange_26 : decode b_V_exchange 26 = .ok (.invokevirtual 196, 3) := by decide +kernel
theorem d_V_exchange_29 : decode b_V_exchange 29 = .ok (.pop, 1) := by decide +kernel
theorem d_V_exchange_30 : decode b_V_exchange 30 = .ok (.aload_n 0, 1) := by decide +kernel
theorem d_V_exchange_31 : decode b_V_exchange 31 = .ok (.getfield 40, 3) := by decide +kernel
theorem d_V_exchange_34 : decode b_V_exchange 34 = .ok (.iload_n 1, 1) := by decide +kernel
theorem d_V_exchange_35 : decode b_V_exchange 35 = .ok (.aaload, 1) := by decide +kernel
theorem d_V_exchange_36 : decode b_V_exchange 36 = .ok (.aload_n 0, 1) := by decide +kernel
theorem d_V_exchange_37 : decode b_V_exchange 37 = .ok (.getfield 71, 3) := by decide +kernel
theorem d_V_exchange_40 : decode b_V_exchange 40 = .ok (.invokevirtual 150, 3) := by decide +kernel
theorem d_V_exchange_43 : decode b_V_exchange 43 = .ok (.pop, 1) := by decide +kernel
theorem d_V_exchange_44 : decode b_V_exchange 44 = .ok (.aload_n 0, 1) := by decide +kernel
theorem d_V_exchange_45 : decode b_V_exchange 45 = .ok (.getfield 40, 3) := by decide +kernel
theorem d_V_exchange_48 : decode b_V_exchange 48 = .ok (.iload_n 2, 1) := by decide +kernel
theorem d_V_exchange_49 : decode b_V_exchange 49 = .ok (.aaload, 1) := by decide +kernel
theorem d_V_exchange_50 : decode b_V_exchange 50 = .ok (.aload_n 0, 1) := by decide +kernel
theorem d_V_exchange_51 : decode b_V_exchange 51 = .ok (.getfield 68, 3) := by decide +kernel
theorem d_V_exchange_54 : decode b_V_exchange 54 = .ok (.invokevirtual 150, 3) := by decide +kernel
theorem d_V_exchange_57 : decode b_V_exchange 57 = .ok (.pop, 1) := by decide +kernel
theorem d_V_exchange_58 : decode b_V_exchange 58 = .ok (.return_, 1) := by decide +kernel
theorem d_V_countComparedParts_0 : decode b_V_countComparedParts 0 = .ok (.iconst 1, 1) := by decide +kernel
theorem d_V_countComparedParts_1 : decode b_V_countComparedParts 1 = .ok (.istore_n 1, 1) := by decide +kernel
theorem d_V_countComparedParts_2 : decode b_V_countComparedParts 2 = .ok (.bipush 16, 2) := by decide +kernel
theorem d_V_countComparedParts_4 : decode b_V_countComparedParts 4 = .ok (.istore_n 2, 1) := by decide +kernel
theorem d_V_countComparedParts_5 : decode b_V_countComparedParts 5 = .ok (.iload_n 2, 1) := by decide +kernel
theorem d_V_countComparedParts_6 : decode b_V_countComparedParts 6 = .ok (.ifCond .le 70, 3) := by decide +kernel
theorem d_V_countComparedParts_9 : decode b_V_countComparedParts 9 = .ok (.iconst 0, 1) := by decide +kernel
theorem d_V_countComparedParts_10 : decode b_V_countComparedParts 10 = .ok (.istore_n 3, 1) := by decide +kernel
theorem d_V_countComparedParts_11 : decode b_V_countComparedParts 11 = .ok (.iload_n 3, 1) := by decide +kernel
theorem d_V_countComparedParts_12 : decode b_V_countComparedParts 12 = .ok (.iload_n 2, 1) := by decide +kernel
theorem d_V_countComparedParts_13 : decode b_V_countComparedParts 13 = .ok (.if_icmp .ge 56, 3) := by decide +kernel
theorem d_V_countComparedParts_16 : decode b_V_countComparedParts 16 = .ok (.aload_n 0, 1) := by decide +kernel
theorem d_V_countComparedParts_17 : decode b_V_countComparedParts 17 = .ok (.getfield 74, 3) := by decide +kernel
theorem d_V_countComparedParts_20 : decode b_V_countComparedParts 20 = .ok (.iload_n 3, 1) := by decide +kernel
theorem d_V_countComparedParts_21 : decode b_V_countComparedParts 21 = .ok (.aload_n 0, 1) := by decide +kernel
theorem d_V_countComparedParts_22 : decode b_V_countComparedParts 22 = .ok (.getfield 74, 3) := by decide +kernel
theorem d_V_countComparedParts_25 : decode b_V_countComparedParts 25 = .ok (.iconst 2, 1) := by decide +kernel
theorem d_V_countComparedParts_26 : decode b_V_countComparedParts 26 = .ok (.iload_n 3, 1) := by decide +kernel
theorem d_V_countComparedParts_27 : decode b_V_countComparedParts 27 = .ok (.imul, 1) := by decide +kernel
theorem d_V_countComparedParts_28 : decode b_V_countComparedParts 28 = .ok (.baload, 1) := by decide +kernel
theorem d_V_countComparedParts_29 : decode b_V_countComparedParts 29 = .ok (.ifCond .ne 16, 3) := by decide +kernel
theorem d_V_countComparedParts_32 : decode b_V_countComparedParts 32 = .ok (.aload_n 0, 1) := by decide +kernel
theorem d_V_countComparedParts_33 : decode b_V_countComparedParts 33 = .ok (.getfield 74, 3) := by decide +kernel
theorem d_V_countComparedParts_36 : decode b_V_countComparedParts 36 = .ok (.iconst 2, 1) := by decide +kernel
theorem d_V_countComparedParts_37 : decode b_V_countComparedParts 37 = .ok (.iload_n 3, 1) := by decide +kernel
theorem d_V_countComparedParts_38 : decode b_V_countComparedParts 38 = .ok (.imul, 1) := by decide +kernel
theorem d_V_countComparedParts_39 : decode b_V_countComparedParts 39 = .ok (.iconst 1, 1) := by decide +kernel
theorem d_V_countComparedParts_40 : decode b_V_countComparedParts 40 = .ok (.iadd, 1) := by decide +kernel
theorem d_V_countComparedParts_41 : decode b_V_countComparedParts 41 = .ok (.baload, 1) := by decide +kernel
theorem d_V_countComparedParts_42 : decode b_V_countComparedParts 42 = .ok (.ifCond .eq 7, 3) := by decide +kernel
theorem d_V_countComparedParts_45 : decode b_V_countComparedParts 45 = .ok (.iconst 1, 1) := by decide +kernel
theorem d_V_countComparedParts_46 : decode b_V_countComparedParts 46 = .ok (.goto 4, 3) := by decide +kernel
theorem d_V_countComparedParts_49 : decode b_V_countComparedParts 49 = .ok (.iconst 0, 1) := by decide +kernel
theorem d_V_countComparedParts_50 : decode b_V_countComparedParts 50 = .ok (.bastore, 1) := by decide +kernel
theorem d_V_countComparedParts_51 : decode b_V_countComparedParts 51 = .ok (.aload_n 0, 1) := by decide +kernel
theorem d_V_countComparedParts_52 : decode b_V_countComparedParts 52 = .ok (.getfield 74, 3) := by decide +kernel
theorem d_V_countComparedParts_55 : decode b_V_countComparedParts 55 = .ok (.iload_n 3, 1) := by decide +kernel
theorem d_V_countComparedParts_56 : decode b_V_countComparedParts 56 = .ok (.baload, 1) := by decide +kernel
theorem d_V_countComparedParts_57 : decode b_V_countComparedParts 57 = .ok (.ifCond .eq 6, 3) := by decide +kernel
theorem d_V_countComparedParts_60 : decode b_V_countComparedParts 60 = .ok (.iinc 1 2, 3) := by decide +kernel
theorem d_V_countComparedParts_63 : decode b_V_countComparedParts 63 = .ok (.iinc 3 1, 3) := by decide +kernel
theorem d_V_countComparedParts_66 : decode b_V_countComparedParts 66 = .ok (.goto (-55), 3) := by decide +kernel
theorem d_V_countComparedParts_69 : decode b_V_countComparedParts 69 = .ok (.iload_n 2, 1) := by decide +kernel
theorem d_V_countComparedParts_70 : decode b_V_countComparedParts 70 = .ok (.iconst 2, 1) := by decide +kernel
theorem d_V_countComparedParts_71 : decode b_V_countComparedParts 71 = .ok (.idiv, 1) := by decide +kernel
theorem d_V_countComparedParts_72 : decode b_V_countComparedParts 72 = .ok (.istore_n 2, 1) := by decide +kernel
theorem d_V_countComparedParts_73 : decode b_V_countComparedParts 73 = .ok (.goto (-68), 3) := by decide +kernel
theorem d_V_countComparedParts_76 : decode b_V_countComparedParts 76 = .ok (.iload_n 1, 1) := by decide +kernel
theorem d_V_countComparedParts_77 : decode b_V_countComparedParts 77 = .ok (.ireturn, 1) := by decide +kernel
end
section
theorem d_M_init_0 : decode b_M_init 0 = .ok (.aload_n 0, 1) := by decide +kernel
theorem d_M_init_1 : decode b_M_init 1 = .ok (.invokespecial 1, 3) := by decide +kernel
theorem d_M_init_4 : decode b_M_init 4 = .ok (.aload_n 0, 1) := by decide +kernel
theorem d_M_init_5 : decode b_M_init 5 = .ok (.iconst 5, 1) := by decide +kernel
theorem d_M_init_6 : decode b_M_init 6 = .ok (.newarray .boolean, 2) := by decide +kernel
theorem d_M_init_8 : decode b_M_init 8 = .ok (.putfield 7, 3) := by decide +kernel
theorem d_M_init_11 : decode b_M_init 11 = .ok (.aload_n 0, 1) := by decide +kernel
theorem d_M_init_12 : decode b_M_init 12 = .ok (.bipush 25, 2) := by decide +kernel
theorem d_M_init_14 : decode b_M_init 14 = .ok (.newarray .boolean, 2) := by decide +kernel
theorem d_M_init_16 : decode b_M_init 16 = .ok (.putfield 13, 3) := by decide +kernel
theorem d_M_init_19 : decode b_M_init 19 = .ok (.aload_n 0, 1) := by decide +kernel
theorem d_M_init_20 : decode b_M_init 20 = .ok (.bipush 16, 2) := by decide +kernel
theorem d_M_init_22 : decode b_M_init 22 = .ok (.newarray .int, 2) := by decide +kernel
theorem d_M_init_24 : decode b_M_init 24 = .ok (.putfield 16, 3) := by decide +kernel
theorem d_M_init_27 : decode b_M_init 27 = .ok (.aload_n 0, 1) := by decide +kernel
theorem d_M_init_28 : decode b_M_init 28 = .ok (.bipush 40, 2) := by decide +kernel
theorem d_M_init_30 : decode b_M_init 30 = .ok (.newarray .int, 2) := by decide +kernel
theorem d_M_init_32 : decode b_M_init 32 = .ok (.putfield 20, 3) := by decide +kernel
theorem d_M_init_35 : decode b_M_init 35 = .ok (.aload_n 0, 1) := by decide +kernel
theorem d_M_init_36 : decode b_M_init 36 = .ok (.bipush 40, 2) := by decide +kernel
theorem d_M_init_38 : decode b_M_init 38 = .ok (.newarray .int, 2) := by decide +kernel
theorem d_M_init_40 : decode b_M_init 40 = .ok (.putfield 23, 3) := by decide +kernel
theorem d_M_init_43 : decode b_M_init 43 = .ok (.aload_n 0, 1) := by decide +kernel
theorem d_M_init_44 : decode b_M_init 44 = .ok (.bipush 40, 2) := by decide +kernel
theorem d_M_init_46 : decode b_M_init 46 = .ok (.newarray .int, 2) := by decide +kernel
theorem d_M_init_48 : decode b_M_init 48 = .ok (.putfield 26, 3) := by decide +kernel
theorem d_M_init_51 : decode b_M_init 51 = .ok (.aload_n 0, 1) := by decide +kernel
theorem d_M_init_52 : decode b_M_init 52 = .ok (.sipush 200, 3) := by decide +kernel
theorem d_M_init_55 : decode b_M_init 55 = .ok (.newarray .int, 2) := by decide +kernel
theorem d_M_init_57 : decode b_M_init 57 = .ok (.putfield 29, 3) := by decide +kernel
theorem d_M_init_60 : decode b_M_init 60 = .ok (.aload_n 0, 1) := by decide +kernel
theorem d_M_init_61 : decode b_M_init 61 = .ok (.sipush 200, 3) := by decide +kernel
theorem d_M_init_64 : decode b_M_init 64 = .ok (.newarray .boolean, 2) := by decide +kernel
theorem d_M_init_66 : decode b_M_init 66 = .ok (.putfield 32, 3) := by decide +kernel
theorem d_M_init_69 : decode b_M_init 69 = .ok (.aload_n 0, 1) := by decide +kernel
theorem d_M_init_70 : decode b_M_init 70 = .ok (.sipush 200, 3) := by decide +kernel
theorem d_M_init_73 : decode b_M_init 73 = .ok (.newarray .int, 2) := by decide +kernel
theorem d_M_init_75 : decode b_M_init 75 = .ok (.putfield 35, 3) := by decide +kernel
theorem d_M_init_78 : decode b_M_init 78 = .ok (.aload_n 0, 1) := by decide +kernel
theorem d_M_init_79 : decode b_M_init 79 = .ok (.bipush 80, 2) := by decide +kernel
theorem d_M_init_81 : decode b_M_init 81 = .ok (.newarray .boolean, 2) := by decide +kernel
theorem d_M_init_83 : decode b_M_init 83 = .ok (.putfield 38, 3) := by decide +kernel
theorem d_M_init_86 : decode b_M_init 86 = .ok (.aload_n 0, 1) := by decide +kernel
theorem d_M_init_87 : decode b_M_init 87 = .ok (.iconst 4, 1) := by decide +kernel
theorem d_M_init_88 : decode b_M_init 88 = .ok (.newarray .int, 2) := by decide +kernel
theorem d_M_init_90 : decode b_M_init 90 = .ok (.putfield 41, 3) := by decide +kernel
theorem d_M_init_93 : decode b_M_init 93 = .ok (.aload_n 0, 1) := by decide +kernel
theorem d_M_init_94 : decode b_M_init 94 = .ok (.iconst 4, 1) := by decide +kernel
theorem d_M_init_95 : decode b_M_init 95 = .ok (.newarray .boolean, 2) := by decide +kernel
theorem d_M_init_97 : decode b_M_init 97 = .ok (.putfield 44, 3) := by decide +kernel
theorem d_M_init_100 : decode b_M_init 100 = .ok (.aload_n 0, 1) := by decide +kernel
theorem d_M_init_101 : decode b_M_init 101 = .ok (.bipush 20, 2) := by decide +kernel
theorem d_M_init_103 : decode b_M_init 103 = .ok (.newarray .int, 2) := by decide +kernel
theorem d_M_init_105 : decode b_M_init 105 = .ok (.putfield 47, 3) := by decide +kernel
theorem d_M_init_108 : decode b_M_init 108 = .ok (.aload_n 0, 1) := by decide +kernel
theorem d_M_init_109 : decode b_M_init 109 = .ok (.bipush 40, 2) := by decide +kernel
theorem d_M_init_111 : decode b_M_init 111 = .ok (.newarray .int, 2) := by decide +kernel
theorem d_M_init_113 : decode b_M_init 113 = .ok (.putfield 50, 3) := by decide +kernel
theorem d_M_init_116 : decode b_M_init 116 = .ok (.aload_n 0, 1) := by decide +kernel
theorem d_M_init_117 : decode b_M_init 117 = .ok (.iconst 5, 1) := by decide +kernel
theorem d_M_init_118 : decode b_M_init 118 = .ok (.newarray .int, 2) := by decide +kernel
theorem d_M_init_120 : decode b_M_init 120 = .ok (.putfield 53, 3) := by decide +kernel
theorem d_M_init_123 : decode b_M_init 123 = .ok (.aload_n 0, 1) := by decide +kernel
theorem d_M_init_124 : decode b_M_init 124 = .ok (.iconst 5, 1) := by decide +kernel
theorem d_M_init_125 : decode b_M_init 125 = .ok (.newarray .int, 2) := by decide +kernel
theorem d_M_init_127 : decode b_M_init 127 = .ok (.putfield 56, 3) := by decide +kernel
theorem d_M_init_130 : decode b_M_init 130 = .ok (.aload_n 0, 1) := by decide +kernel
theorem d_M_init_131 : decode b_M_init 131 = .ok (.iload_n 1, 1) := by decide +kernel
theorem d_M_init_132 : decode b_M_init 132 = .ok (.iconst 3, 1) := by decide +kernel
theorem d_M_init_133 : decode b_M_init 133 = .ok (.iand, 1) := by decide +kernel
theorem d_M_init_134 : decode b_M_init 134 = .ok (.iconst 3, 1) := by decide +kernel
theorem d_M_init_135 : decode b_M_init 135 = .ok (.if_icmp .ne 7, 3) := by decide +kernel
theorem d_M_init_138 : decode b_M_init 138 = .ok (.iconst 3, 1) := by decide +kernel
theorem d_M_init_139 : decode b_M_init 139 = .ok (.goto 8, 3) := by decide +kernel
theorem d_M_init_142 : decode b_M_init 142 = .ok (.iconst 1, 1) := by decide +kernel
theorem d_M_init_143 : decode b_M_init 143 = .ok (.iload_n 1, 1) := by decide +kernel
theorem d_M_init_144 : decode b_M_init 144 = .ok (.iconst 3, 1) := by decide +kernel
theorem d_M_init_145 : decode b_M_init 145 = .ok (.iand, 1) := by decide +kernel
theorem d_M_init_146 : decode b_M_init 146 = .ok (.iadd, 1) := by decide +kernel
theorem d_M_init_147 : decode b_M_init 147 = .ok (.putfield 59, 3) := by decide +kernel
theorem d_M_init_150 : decode b_M_init 150 = .ok (.aload_n 0, 1) := by decide +kernel
theorem d_M_init_151 : decode b_M_init 151 = .ok (.iconst 1, 1) := by decide +kernel
theorem d_M_init_152 : decode b_M_init 152 = .ok (.iload_n 2, 1) := by decide +kernel
theorem d_M_init_153 : decode b_M_init 153 = .ok (.iconst 3, 1) := by decide +kernel
theorem d_M_init_154 : decode b_M_init 154 = .ok (.iand, 1) := by decide +kernel
theorem d_M_init_155 : decode b_M_init 155 = .ok (.iadd, 1) := by decide +kernel
theorem d_M_init_156 : decode b_M_init 156 = .ok (.aload_n 0, 1) := by decide +kernel
theorem d_M_init_157 : decode b_M_init 157 = .ok (.getfield 59, 3) := by decide +kernel
theorem d_M_init_160 : decode b_M_init 160 = .ok (.if_icmp .ge 11, 3) := by decide +kernel
theorem d_M_init_163 : decode b_M_init 163 = .ok (.iconst 1, 1) := by decide +kernel
theorem d_M_init_164 : decode b_M_init 164 = .ok (.iload_n 2, 1) := by decide +kernel
theorem d_M_init_165 : decode b_M_init 165 = .ok (.iconst 3, 1) := by decide +kernel
theorem d_M_init_166 : decode b_M_init 166 = .ok (.iand, 1) := by decide +kernel
theorem d_M_init_167 : decode b_M_init 167 = .ok (.iadd, 1) := by decide +kernel
theorem d_M_init_168 : decode b_M_init 168 = .ok (.goto 7, 3) := by decide +kernel
theorem d_M_init_171 : decode b_M_init 171 = .ok (.aload_n 0, 1) := by decide +kernel
theorem d_M_init_172 : decode b_M_init 172 = .ok (.getfield 59, 3) := by decide +kernel
theorem d_M_init_175 : decode b_M_init 175 = .ok (.putfield 63, 3) := by decide +kernel
theorem d_M_init_178 : decode b_M_init 178 = .ok (.aload_n 0, 1) := by decide +kernel
theorem d_M_init_179 : decode b_M_init 179 = .ok (.iconst 1, 1) := by decide +kernel
theorem d_M_init_180 : decode b_M_init 180 = .ok (.iload_n 3, 1) := by decide +kernel
theorem d_M_init_181 : decode b_M_init 181 = .ok (.iconst 3, 1) := by decide +kernel
theorem d_M_init_182 : decode b_M_init 182 = .ok (.iand, 1) := by decide +kernel
theorem d_M_init_183 : decode b_M_init 183 = .ok (.iadd, 1) := by decide +kernel
theorem d_M_init_184 : decode b_M_init 184 = .ok (.aload_n 0, 1) := by decide +kernel
theorem d_M_init_185 : decode b_M_init 185 = .ok (.getfield 59, 3) := by decide +kernel
theorem d_M_init_188 : decode b_M_init 188 = .ok (.if_icmp .ge 11, 3) := by decide +kernel
theorem d_M_init_191 : decode b_M_init 191 = .ok (.iconst 1, 1) := by decide +kernel
theorem d_M_init_192 : decode b_M_init 192 = .ok (.iload_n 3, 1) := by decide +kernel
theorem d_M_init_193 : decode b_M_init 193 = .ok (.iconst 3, 1) := by decide +kernel
theorem d_M_init_194 : decode b_M_init 194 = .ok (.iand, 1) := by decide +kernel
theorem d_M_init_195 : decode b_M_init 195 = .ok (.iadd, 1) := by decide +kernel
theorem d_M_init_196 : decode b_M_init 196 = .ok (.goto 7, 3) := by decide +kernel
theorem d_M_init_199 : decode b_M_init 199 = .ok (.aload_n 0, 1) := by decide +kernel
theorem d_M_init_200 : decode b_M_init 200 = .ok (.getfield 59, 3) := by decide +kernel
theorem d_M_init_203 : decode b_M_init 203 = .ok (.putfield 66, 3) := by decide +kernel
theorem d_M_init_206 : decode b_M_init 206 = .ok (.return_, 1) := by decide +kernel
theorem d_M_isNode_0 : decode b_M_isNode 0 = .ok (.iload_n 0, 1) := by decide +kernel
theorem d_M_isNode_1 : decode b_M_isNode 1 = .ok (.ifCond .lt 12, 3) := by decide +kernel
theorem d_M_isNode_4 : decode b_M_isNode 4 = .ok (.iload_n 0, 1) := by decide +kernel
theorem d_M_isNode_5 : decode b_M_isNode 5 = .ok (.iconst 4, 1) := by decide +kernel
theorem d_M_isNode_6 : decode b_M_isNode 6 = .ok (.if_icmp .gt 7, 3) := by decide +kernel
theorem d_M_isNode_9 : decode b_M_isNode 9 = .ok (.iconst 1, 1) := by decide +kernel
theorem d_M_isNode_10 : decode b_M_isNode 10 = .ok (.goto 4, 3) := by decide +kernel
theorem d_M_isNode_13 : decode b_M_isNode 13 = .ok (.iconst 0, 1) := by decide +kernel
theorem d_M_isNode_14 : decode b_M_isNode 14 = .ok (.ireturn, 1) := by decide +kernel
theorem d_M_isKey_0 : decode b_M_isKey 0 = .ok (.iload_n 0, 1) := by decide +kernel
theorem d_M_isKey_1 : decode b_M_isKey 1 = .ok (.ifCond .lt 13, 3) := by decide +kernel
theorem d_M_isKey_4 : decode b_M_isKey 4 = .ok (.iload_n 0, 1) := by decide +kernel
theorem d_M_isKey_5 : decode b_M_isKey 5 = .ok (.bipush 31, 2) := by decide +kernel
theorem d_M_isKey_7 : decode b_M_isKey 7 = .ok (.if_icmp .gt 7, 3) := by decide +kernel
theorem d_M_isKey_10 : decode b_M_isKey 10 = .ok (.iconst 1, 1) := by decide +kernel
theorem d_M_isKey_11 : decode b_M_isKey 11 = .ok (.goto 4, 3) := by decide +kernel
theorem d_M_isKey_14 : decode b_M_isKey 14 = .ok (.iconst 0, 1) := by decide +kernel
theorem d_M_isKey_15 : decode b_M_isKey 15 = .ok (.ireturn, 1) := by decide +kernel
theorem d_M_reaches_0 : decode b_M_reaches 0 = .ok (.aload_n 0, 1) := by decide +kernel
theorem d_M_reaches_1 : decode b_M_reaches 1 = .ok (.getfield 7, 3) := by decide +kernel
theorem d_M_reaches_4 : decode b_M_reaches 4 = .ok (.iload_n 1, 1) := by decide +kernel
theorem d_M_reaches_5 : decode b_M_reaches 5 = .ok (.baload, 1) := by decide +kernel
theorem d_M_reaches_6 : decode b_M_reaches 6 = .ok (.ifCond .ne 29, 3) := by decide +kernel
theorem d_M_reaches_9 : decode b_M_reaches 9 = .ok (.aload_n 0, 1) := by decide +kernel
theorem d_M_reaches_10 : decode b_M_reaches 10 = .ok (.getfield 7, 3) := by decide +kernel
theorem d_M_reaches_13 : decode b_M_reaches 13 = .ok (.iload_n 2, 1) := by decide +kernel
theorem d_M_reaches_14 : decode b_M_reaches 14 = .ok (.baload, 1) := by decide +kernel
theorem d_M_reaches_15 : decode b_M_reaches 15 = .ok (.ifCond .ne 20, 3) := by decide +kernel
theorem d_M_reaches_18 : decode b_M_reaches 18 = .ok (.aload_n 0, 1) := by decide +kernel
theorem d_M_reaches_19 : decode b_M_reaches 19 = .ok (.getfield 13, 3) := by decide +kernel
theorem d_M_reaches_22 : decode b_M_reaches 22 = .ok (.iconst 5, 1) := by decide +kernel
theorem d_M_reaches_23 : decode b_M_reaches 23 = .ok (.iload_n 1, 1) := by decide +kernel
theorem d_M_reaches_24 : decode b_M_reaches 24 = .ok (.imul, 1) := by decide +kernel
theorem d_M_reaches_25 : decode b_M_reaches 25 = .ok (.iload_n 2, 1) := by decide +kernel
theorem d_M_reaches_26 : decode b_M_reaches 26 = .ok (.iadd, 1) := by decide +kernel
theorem d_M_reaches_27 : decode b_M_reaches 27 = .ok (.baload, 1) := by decide +kernel
theorem d_M_reaches_28 : decode b_M_reaches 28 = .ok (.ifCond .ne 7, 3) := by decide +kernel
theorem d_M_reaches_31 : decode b_M_reaches 31 = .ok (.iconst 1, 1) := by decide +kernel
theorem d_M_reaches_32 : decode b_M_reaches 32 = .ok (.goto 4, 3) := by decide +kernel
theorem d_M_reaches_35 : decode b_M_reaches 35 = .ok (.iconst 0, 1) := by decide +kernel
theorem d_M_reaches_36 : decode b_M_reaches 36 = .ok (.ireturn, 1) := by decide +kernel
theorem d_M_token_0 : decode b_M_token 0 = .ok (.iload_n 1, 1) := by decide +kernel
theorem d_M_token_1 : decode b_M_token 1 = .ok (.invokestatic 69, 3) := by decide +kernel
theorem d_M_token_4 : decode b_M_token 4 = .ok (.ifCond .eq 22, 3) := by decide +kernel
theorem d_M_token_7 : decode b_M_token 7 = .ok (.iload_n 2, 1) := by decide +kernel
theorem d_M_token_8 : decode b_M_token 8 = .ok (.ifCond .lt 18, 3) := by decide +kernel
theorem d_M_token_11 : decode b_M_token 11 = .ok (.iload_n 2, 1) := by decide +kernel
theorem d_M_token_12 : decode b_M_token 12 = .ok (.bipush 15, 2) := by decide +kernel
theorem d_M_token_14 : decode b_M_token 14 = .ok (.if_icmp .gt 12, 3) := by decide +kernel
theorem d_M_token_17 : decode b_M_token 17 = .ok (.aload_n 0, 1) := by decide +kernel
theorem d_M_token_18 : decode b_M_token 18 = .ok (.getfield 16, 3) := by decide +kernel
theorem d_M_token_21 : decode b_M_token 21 = .ok (.iload_n 2, 1) := by decide +kernel
theorem d_M_token_22 : decode b_M_token 22 = .ok (.iaload, 1) := by decide +kernel
theorem d_M_token_23 : decode b_M_token 23 = .ok (.ifCond .eq 5, 3) := by decide +kernel
theorem d_M_token_26 : decode b_M_token 26 = .ok (.iconst 0, 1) := by decide +kernel
theorem d_M_token_27 : decode b_M_token 27 = .ok (.ireturn, 1) := by decide +kernel
theorem d_M_token_28 : decode b_M_token 28 = .ok (.aload_n 0, 1) := by decide +kernel
theorem d_M_token_29 : decode b_M_token 29 = .ok (.getfield 16, 3) := by decide +kernel
theorem d_M_token_32 : decode b_M_token 32 = .ok (.iload_n 2, 1) := by decide +kernel
theorem d_M_token_33 : decode b_M_token 33 = .ok (.iload_n 1, 1) := by decide +kernel
theorem d_M_token_34 : decode b_M_token 34 = .ok (.iconst 1, 1) := by decide +kernel
theorem d_M_token_35 : decode b_M_token 35 = .ok (.iadd, 1) := by decide +kernel
theorem d_M_token_36 : decode b_M_token 36 = .ok (.iastore, 1) := by decide +kernel
theorem d_M_token_37 : decode b_M_token 37 = .ok (.iconst 1, 1) := by decide +kernel
theorem d_M_token_38 : decode b_M_token 38 = .ok (.ireturn, 1) := by decide +kernel
theorem d_M_remove_0 : decode b_M_remove 0 = .ok (.iload_n 1, 1) := by decide +kernel
theorem d_M_remove_1 : decode b_M_remove 1 = .ok (.ifCond .lt 18, 3) := by decide +kernel
theorem d_M_remove_4 : decode b_M_remove 4 = .ok (.iload_n 1, 1) := by decide +kernel
theorem d_M_remove_5 : decode b_M_remove 5 = .ok (.bipush 15, 2) := by decide +kernel
theorem d_M_remove_7 : decode b_M_remove 7 = .ok (.if_icmp .gt 12, 3) := by decide +kernel
theorem d_M_remove_10 : decode b_M_remove 10 = .ok (.aload_n 0, 1) := by decide +kernel
theorem d_M_remove_11 : decode b_M_remove 11 = .ok (.getfield 16, 3) := by decide +kernel
theorem d_M_remove_14 : decode b_M_remove 14 = .ok (.iload_n 1, 1) := by decide +kernel
theorem d_M_remove_15 : decode b_M_remove 15 = .ok (.iaload, 1) := by decide +kernel
theorem d_M_remove_16 : decode b_M_remove 16 = .ok (.ifCond .ne 5, 3) := by decide +kernel
theorem d_M_remove_19 : decode b_M_remove 19 = .ok (.iconst 0, 1) := by decide +kernel
theorem d_M_remove_20 : decode b_M_remove 20 = .ok (.ireturn, 1) := by decide +kernel
theorem d_M_remove_21 : decode b_M_remove 21 = .ok (.aload_n 0, 1) := by decide +kernel
theorem d_M_remove_22 : decode b_M_remove 22 = .ok (.getfield 16, 3) := by decide +kernel
theorem d_M_remove_25 : decode b_M_remove 25 = .ok (.iload_n 1, 1) := by decide +kernel
theorem d_M_remove_26 : decode b_M_remove 26 = .ok (.iconst 0, 1) := by decide +kernel
theorem d_M_remove_27 : decode b_M_remove 27 = .ok (.iastore, 1) := by decide +kernel
theorem d_M_remove_28 : decode b_M_remove 28 = .ok (.iconst 1, 1) := by decide +kernel
theorem d_M_remove_29 : decode b_M_remove 29 = .ok (.ireturn, 1) := by decide +kernel
theorem d_M_power_0 : decode b_M_power 0 = .ok (.iload_n 1, 1) := by decide +kernel
theorem d_M_power_1 : decode b_M_power 1 = .ok (.invokestatic 69, 3) := by decide +kernel
theorem d_M_power_4 : decode b_M_power 4 = .ok (.ifCond .eq 13, 3) := by decide +kernel
theorem d_M_power_7 : decode b_M_power 7 = .ok (.aload_n 0, 1) := by decide +kernel
theorem d_M_power_8 : decode b_M_power 8 = .ok (.getfield 7, 3) := by decide +kernel
theorem d_M_power_11 : decode b_M_power 11 = .ok (.iload_n 1, 1) := by decide +kernel
theorem d_M_power_12 : decode b_M_power 12 = .ok (.baload, 1) := by decide +kernel
theorem d_M_power_13 : decode b_M_power 13 = .ok (.iload_n 2, 1) := by decide +kernel
theorem d_M_power_14 : decode b_M_power 14 = .ok (.if_icmp .eq 5, 3) := by decide +kernel
theorem d_M_power_17 : decode b_M_power 17 = .ok (.iconst 0, 1) := by decide +kernel
theorem d_M_power_18 : decode b_M_power 18 = .ok (.ireturn, 1) := by decide +kernel
theorem d_M_power_19 : decode b_M_power 19 = .ok (.aload_n 0, 1) := by decide +kernel
theorem d_M_power_20 : decode b_M_power 20 = .ok (.getfield 7, 3) := by decide +kernel
theorem d_M_power_23 : decode b_M_power 23 = .ok (.iload_n 1, 1) := by decide +kernel
theorem d_M_power_24 : decode b_M_power 24 = .ok (.iload_n 2, 1) := by decide +kernel
theorem d_M_power_25 : decode b_M_power 25 = .ok (.ifCond .ne 7, 3) := by decide +kernel
theorem d_M_power_28 : decode b_M_power 28 = .ok (.iconst 1, 1) := by decide +kernel
theorem d_M_power_29 : decode b_M_power 29 = .ok (.goto 4, 3) := by decide +kernel
theorem d_M_power_32 : decode b_M_power 32 = .ok (.iconst 0, 1) := by decide +kernel
theorem d_M_power_33 : decode b_M_power 33 = .ok (.bastore, 1) := by decide +kernel
theorem d_M_power_34 : decode b_M_power 34 = .ok (.iconst 1, 1) := by decide +kernel
theorem d_M_power_35 : decode b_M_power 35 = .ok (.ireturn, 1) := by decide +kernel
theorem d_M_cut_0 : decode b_M_cut 0 = .ok (.iload_n 1, 1) := by decide +kernel
theorem d_M_cut_1 : decode b_M_cut 1 = .ok (.invokestatic 69, 3) := by decide +kernel
theorem d_M_cut_4 : decode b_M_cut 4 = .ok (.ifCond .eq 29, 3) := by decide +kernel
theorem d_M_cut_7 : decode b_M_cut 7 = .ok (.iload_n 2, 1) := by decide +kernel
theorem d_M_cut_8 : decode b_M_cut 8 = .ok (.invokestatic 69, 3) := by decide +kernel
theorem d_M_cut_11 : decode b_M_cut 11 = .ok (.ifCond .eq 22, 3) := by decide +kernel
theorem d_M_cut_14 : decode b_M_cut 14 = .ok (.iload_n 1, 1) := by decide +kernel
theorem d_M_cut_15 : decode b_M_cut 15 = .ok (.iload_n 2, 1) := by decide +kernel
theorem d_M_cut_16 : decode b_M_cut 16 = .ok (.if_icmp .eq 17, 3) := by decide +kernel
theorem d_M_cut_19 : decode b_M_cut 19 = .ok (.aload_n 0, 1) := by decide +kernel
theorem d_M_cut_20 : decode b_M_cut 20 = .ok (.getfield 13, 3) := by decide +kernel
theorem d_M_cut_23 : decode b_M_cut 23 = .ok (.iconst 5, 1) := by decide +kernel
theorem d_M_cut_24 : decode b_M_cut 24 = .ok (.iload_n 1, 1) := by decide +kernel
theorem d_M_cut_25 : decode b_M_cut 25 = .ok (.imul, 1) := by decide +kernel
theorem d_M_cut_26 : decode b_M_cut 26 = .ok (.iload_n 2, 1) := by decide +kernel
theorem d_M_cut_27 : decode b_M_cut 27 = .ok (.iadd, 1) := by decide +kernel
theorem d_M_cut_28 : decode b_M_cut 28 = .ok (.baload, 1) := by decide +kernel
theorem d_M_cut_29 : decode b_M_cut 29 = .ok (.iload_n 3, 1) := by decide +kernel
theorem d_M_cut_30 : decode b_M_cut 30 = .ok (.if_icmp .ne 5, 3) := by decide +kernel
theorem d_M_cut_33 : decode b_M_cut 33 = .ok (.iconst 0, 1) := by decide +kernel
theorem d_M_cut_34 : decode b_M_cut 34 = .ok (.ireturn, 1) := by decide +kernel
theorem d_M_cut_35 : decode b_M_cut 35 = .ok (.aload_n 0, 1) := by decide +kernel
theorem d_M_cut_36 : decode b_M_cut 36 = .ok (.getfield 13, 3) := by decide +kernel
theorem d_M_cut_39 : decode b_M_cut 39 = .ok (.iconst 5, 1) := by decide +kernel
theorem d_M_cut_40 : decode b_M_cut 40 = .ok (.iload_n 1, 1) := by decide +kernel
theorem d_M_cut_41 : decode b_M_cut 41 = .ok (.imul, 1) := by decide +kernel
theorem d_M_cut_42 : decode b_M_cut 42 = .ok (.iload_n 2, 1) := by decide +kernel
theorem d_M_cut_43 : decode b_M_cut 43 = .ok (.iadd, 1) := by decide +kernel
theorem d_M_cut_44 : decode b_M_cut 44 = .ok (.iload_n 3, 1) := by decide +kernel
theorem d_M_cut_45 : decode b_M_cut 45 = .ok (.bastore, 1) := by decide +kernel
theorem d_M_cut_46 : decode b_M_cut 46 = .ok (.aload_n 0, 1) := by decide +kernel
theorem d_M_cut_47 : decode b_M_cut 47 = .ok (.getfield 13, 3) := by decide +kernel
theorem d_M_cut_50 : decode b_M_cut 50 = .ok (.iconst 5, 1) := by decide +kernel
theorem d_M_cut_51 : decode b_M_cut 51 = .ok (.iload_n 2, 1) := by decide +kernel
theorem d_M_cut_52 : decode b_M_cut 52 = .ok (.imul, 1) := by decide +kernel
theorem d_M_cut_53 : decode b_M_cut 53 = .ok (.iload_n 1, 1) := by decide +kernel
theorem d_M_cut_54 : decode b_M_cut 54 = .ok (.iadd, 1) := by decide +kernel
theorem d_M_cut_55 : decode b_M_cut 55 = .ok (.iload_n 3, 1) := by decide +kernel
theorem d_M_cut_56 : decode b_M_cut 56 = .ok (.bastore, 1) := by decide +kernel
theorem d_M_cut_57 : decode b_M_cut 57 = .ok (.iconst 1, 1) := by decide +kernel
theorem d_M_cut_58 : decode b_M_cut 58 = .ok (.ireturn, 1) := by decide +kernel
theorem d_M_placeIn_0 : decode b_M_placeIn 0 = .ok (.iconst 0, 1) := by decide +kernel
theorem d_M_placeIn_1 : decode b_M_placeIn 1 = .ok (.istore_n 2, 1) := by decide +kernel
theorem d_M_placeIn_2 : decode b_M_placeIn 2 = .ok (.iload_n 2, 1) := by decide +kernel
theorem d_M_placeIn_3 : decode b_M_placeIn 3 = .ok (.aload_n 0, 1) := by decide +kernel
theorem d_M_placeIn_4 : decode b_M_placeIn 4 = .ok (.getfield 73, 3) := by decide +kernel
theorem d_M_placeIn_7 : decode b_M_placeIn 7 = .ok (.if_icmp .ge 21, 3) := by decide +kernel
theorem d_M_placeIn_10 : decode b_M_placeIn 10 = .ok (.aload_n 0, 1) := by decide +kernel
theorem d_M_placeIn_11 : decode b_M_placeIn 11 = .ok (.getfield 53, 3) := by decide +kernel
theorem d_M_placeIn_14 : decode b_M_placeIn 14 = .ok (.iload_n 2, 1) := by decide +kernel
theorem d_M_placeIn_15 : decode b_M_placeIn 15 = .ok (.iaload, 1) := by decide +kernel
theorem d_M_placeIn_16 : decode b_M_placeIn 16 = .ok (.iload_n 1, 1) := by decide +kernel
theorem d_M_placeIn_17 : decode b_M_placeIn 17 = .ok (.if_icmp .ne 5, 3) := by decide +kernel
theorem d_M_placeIn_20 : decode b_M_placeIn 20 = .ok (.iload_n 2, 1) := by decide +kernel
theorem d_M_placeIn_21 : decode b_M_placeIn 21 = .ok (.ireturn, 1) := by decide +kernel
theorem d_M_placeIn_22 : decode b_M_placeIn 22 = .ok (.iinc 2 1, 3) := by decide +kernel
theorem d_M_placeIn_25 : decode b_M_placeIn 25 = .ok (.goto (-23), 3) := by decide +kernel
theorem d_M_placeIn_28 : decode b_M_placeIn 28 = .ok (.iconst (-1), 1) := by decide +kernel
theorem d_M_placeIn_29 : decode b_M_placeIn 29 = .ok (.ireturn, 1) := by decide +kernel
theorem d_M_list_0 : decode b_M_list 0 = .ok (.aload_n 0, 1) := by decide +kernel
theorem d_M_list_1 : decode b_M_list 1 = .ok (.iconst 0, 1) := by decide +kernel
theorem d_M_list_2 : decode b_M_list 2 = .ok (.putfield 73, 3) := by decide +kernel
theorem d_M_list_5 : decode b_M_list 5 = .ok (.iconst 0, 1) := by decide +kernel
theorem d_M_list_6 : decode b_M_list 6 = .ok (.istore_n 2, 1) := by decide +kernel
theorem d_M_list_7 : decode b_M_list 7 = .ok (.iload_n 2, 1) := by decide +kernel
theorem d_M_list_8 : decode b_M_list 8 = .ok (.bipush 16, 2) := by decide +kernel
theorem d_M_list_10 : decode b_M_list 10 = .ok (.if_icmp .ge 59, 3) := by decide +kernel
theorem d_M_list_13 : decode b_M_list 13 = .ok (.aload_n 0, 1) := by decide +kernel
theorem d_M_list_14 : decode b_M_list 14 = .ok (.getfield 16, 3) := by decide +kernel
theorem d_M_list_17 : decode b_M_list 17 = .ok (.iconst 5, 1) := by decide +kernel
theorem d_M_list_18 : decode b_M_list 18 = .ok (.iload_n 1, 1) := by decide +kernel
theorem d_M_list_19 : decode b_M_list 19 = .ok (.imul, 1) := by decide +kernel
theorem d_M_list_20 : decode b_M_list 20 = .ok (.iconst 3, 1) := by decide +kernel
theorem d_M_list_21 : decode b_M_list 21 = .ok (.iadd, 1) := by decide +kernel
theorem d_M_list_22 : decode b_M_list 22 = .ok (.iload_n 2, 1) := by decide +kernel
theorem d_M_list_23 : decode b_M_list 23 = .ok (.iadd, 1) := by decide +kernel
theorem d_M_list_24 : decode b_M_list 24 = .ok (.bipush 16, 2) := by decide +kernel
theorem d_M_list_26 : decode b_M_list 26 = .ok (.irem, 1) := by decide +kernel
theorem d_M_list_27 : decode b_M_list 27 = .ok (.iaload, 1) := by decide +kernel
theorem d_M_list_28 : decode b_M_list 28 = .ok (.iconst 1, 1) := by decide +kernel
theorem d_M_list_29 : decode b_M_list 29 = .ok (.isub, 1) := by decide +kernel
theorem d_M_list_30 : decode b_M_list 30 = .ok (.istore_n 3, 1) := by decide +kernel
theorem d_M_list_31 : decode b_M_list 31 = .ok (.iload_n 3, 1) := by decide +kernel
theorem d_M_list_32 : decode b_M_list 32 = .ok (.ifCond .lt 31, 3) := by decide +kernel
theorem d_M_list_35 : decode b_M_list 35 = .ok (.aload_n 0, 1) := by decide +kernel
theorem d_M_list_36 : decode b_M_list 36 = .ok (.iload_n 3, 1) := by decide +kernel
theorem d_M_list_37 : decode b_M_list 37 = .ok (.invokevirtual 76, 3) := by decide +kernel
theorem d_M_list_40 : decode b_M_list 40 = .ok (.ifCond .ge 23, 3) := by decide +kernel
theorem d_M_list_43 : decode b_M_list 43 = .ok (.aload_n 0, 1) := by decide +kernel
theorem d_M_list_44 : decode b_M_list 44 = .ok (.getfield 53, 3) := by decide +kernel
theorem d_M_list_47 : decode b_M_list 47 = .ok (.aload_n 0, 1) := by decide +kernel
theorem d_M_list_48 : decode b_M_list 48 = .ok (.getfield 73, 3) := by decide +kernel
theorem d_M_list_51 : decode b_M_list 51 = .ok (.iload_n 3, 1) := by decide +kernel
theorem d_M_list_52 : decode b_M_list 52 = .ok (.iastore, 1) := by decide +kernel
theorem d_M_list_53 : decode b_M_list 53 = .ok (.aload_n 0, 1) := by decide +kernel
theorem d_M_list_54 : decode b_M_list 54 = .ok (.dup, 1) := by decide +kernel
theorem d_M_list_55 : decode b_M_list 55 = .ok (.getfield 73, 3) := by decide +kernel
theorem d_M_list_58 : decode b_M_list 58 = .ok (.iconst 1, 1) := by decide +kernel
theorem d_M_list_59 : decode b_M_list 59 = .ok (.iadd, 1) := by decide +kernel
theorem d_M_list_60 : decode b_M_list 60 = .ok (.putfield 73, 3) := by decide +kernel
theorem d_M_list_63 : decode b_M_list 63 = .ok (.iinc 2 1, 3) := by decide +kernel
theorem d_M_list_66 : decode b_M_list 66 = .ok (.goto (-59), 3) := by decide +kernel
theorem d_M_list_69 : decode b_M_list 69 = .ok (.return_, 1) := by decide +kernel
theorem d_M_homes_0 : decode b_M_homes 0 = .ok (.aload_n 0, 1) := by decide +kernel
theorem d_M_homes_1 : decode b_M_homes 1 = .ok (.getfield 73, 3) := by decide +kernel
theorem d_M_homes_4 : decode b_M_homes 4 = .ok (.aload_n 0, 1) := by decide +kernel
theorem d_M_homes_5 : decode b_M_homes 5 = .ok (.getfield 59, 3) := by decide +kernel
theorem d_M_homes_8 : decode b_M_homes 8 = .ok (.if_icmp .ge 10, 3) := by decide +kernel
theorem d_M_homes_11 : decode b_M_homes 11 = .ok (.aload_n 0, 1) := by decide +kernel
theorem d_M_homes_12 : decode b_M_homes 12 = .ok (.getfield 73, 3) := by decide +kernel
theorem d_M_homes_15 : decode b_M_homes 15 = .ok (.goto 7, 3) := by decide +kernel
theorem d_M_homes_18 : decode b_M_homes 18 = .ok (.aload_n 0, 1) := by decide +kernel
theorem d_M_homes_19 : decode b_M_homes 19 = .ok (.getfield 59, 3) := by decide +kernel
theorem d_M_homes_22 : decode b_M_homes 22 = .ok (.ireturn, 1) := by decide +kernel
theorem d_M_isHome_0 : decode b_M_isHome 0 = .ok (.aload_n 0, 1) := by decide +kernel
theorem d_M_isHome_1 : decode b_M_isHome 1 = .ok (.iload_n 2, 1) := by decide +kernel
theorem d_M_isHome_2 : decode b_M_isHome 2 = .ok (.invokevirtual 80, 3) := by decide +kernel
theorem d_M_isHome_5 : decode b_M_isHome 5 = .ok (.aload_n 0, 1) := by decide +kernel
theorem d_M_isHome_6 : decode b_M_isHome 6 = .ok (.iload_n 1, 1) := by decide +kernel
theorem d_M_isHome_7 : decode b_M_isHome 7 = .ok (.invokevirtual 76, 3) := by decide +kernel
theorem d_M_isHome_10 : decode b_M_isHome 10 = .ok (.istore_n 3, 1) := by decide +kernel
theorem d_M_isHome_11 : decode b_M_isHome 11 = .ok (.iload_n 3, 1) := by decide +kernel
theorem d_M_isHome_12 : decode b_M_isHome 12 = .ok (.ifCond .lt 15, 3) := by decide +kernel
theorem d_M_isHome_15 : decode b_M_isHome 15 = .ok (.iload_n 3, 1) := by decide +kernel
theorem d_M_isHome_16 : decode b_M_isHome 16 = .ok (.aload_n 0, 1) := by decide +kernel
theorem d_M_isHome_17 : decode b_M_isHome 17 = .ok (.getfield 59, 3) := by decide +kernel
theorem d_M_isHome_20 : decode b_M_isHome 20 = .ok (.if_icmp .ge 7, 3) := by decide +kernel
theorem d_M_isHome_23 : decode b_M_isHome 23 = .ok (.iconst 1, 1) := by decide +kernel
theorem d_M_isHome_24 : decode b_M_isHome 24 = .ok (.goto 4, 3) := by decide +kernel
theorem d_M_isHome_27 : decode b_M_isHome 27 = .ok (.iconst 0, 1) := by decide +kernel
theorem d_M_isHome_28 : decode b_M_isHome 28 = .ok (.ireturn, 1) := by decide +kernel
theorem d_M_home_0 : decode b_M_home 0 = .ok (.iload_n 1, 1) := by decide +kernel
theorem d_M_home_1 : decode b_M_home 1 = .ok (.invokestatic 84, 3) := by decide +kernel
theorem d_M_home_4 : decode b_M_home 4 = .ok (.ifCond .eq 7, 3) := by decide +kernel
theorem d_M_home_7 : decode b_M_home 7 = .ok (.iload_n 2, 1) := by decide +kernel
theorem d_M_home_8 : decode b_M_home 8 = .ok (.ifCond .ge 5, 3) := by decide +kernel
theorem d_M_home_11 : decode b_M_home 11 = .ok (.iconst (-1), 1) := by decide +kernel
theorem d_M_home_12 : decode b_M_home 12 = .ok (.ireturn, 1) := by decide +kernel
theorem d_M_home_13 : decode b_M_home 13 = .ok (.aload_n 0, 1) := by decide +kernel
theorem d_M_home_14 : decode b_M_home 14 = .ok (.iload_n 1, 1) := by decide +kernel
theorem d_M_home_15 : decode b_M_home 15 = .ok (.invokevirtual 80, 3) := by decide +kernel
theorem d_M_home_18 : decode b_M_home 18 = .ok (.iload_n 2, 1) := by decide +kernel
theorem d_M_home_19 : decode b_M_home 19 = .ok (.aload_n 0, 1) := by decide +kernel
theorem d_M_home_20 : decode b_M_home 20 = .ok (.invokevirtual 87, 3) := by decide +kernel
theorem d_M_home_23 : decode b_M_home 23 = .ok (.if_icmp .ge 12, 3) := by decide +kernel
theorem d_M_home_26 : decode b_M_home 26 = .ok (.aload_n 0, 1) := by decide +kernel
theorem d_M_home_27 : decode b_M_home 27 = .ok (.getfield 53, 3) := by decide +kernel
theorem d_M_home_30 : decode b_M_home 30 = .ok (.iload_n 2, 1) := by decide +kernel
theorem d_M_home_31 : decode b_M_home 31 = .ok (.iaload, 1) := by decide +kernel
theorem d_M_home_32 : decode b_M_home 32 = .ok (.goto 4, 3) := by decide +kernel
theorem d_M_home_35 : decode b_M_home 35 = .ok (.iconst (-1), 1) := by decide +kernel
theorem d_M_home_36 : decode b_M_home 36 = .ok (.ireturn, 1) := by decide +kernel
theorem d_M_aim_0 : decode b_M_aim 0 = .ok (.aload_n 0, 1) := by decide +kernel
theorem d_M_aim_1 : decode b_M_aim 1 = .ok (.iload_n 2, 1) := by decide +kernel
theorem d_M_aim_2 : decode b_M_aim 2 = .ok (.invokevirtual 80, 3) := by decide +kernel
theorem d_M_aim_5 : decode b_M_aim 5 = .ok (.aload_n 0, 1) := by decide +kernel
theorem d_M_aim_6 : decode b_M_aim 6 = .ok (.iconst 0, 1) := by decide +kernel
theorem d_M_aim_7 : decode b_M_aim 7 = .ok (.putfield 91, 3) := by decide +kernel
theorem d_M_aim_10 : decode b_M_aim 10 = .ok (.iconst 0, 1) := by decide +kernel
theorem d_M_aim_11 : decode b_M_aim 11 = .ok (.istore_n 3, 1) := by decide +kernel
theorem d_M_aim_12 : decode b_M_aim 12 = .ok (.iload_n 3, 1) := by decide +kernel
theorem d_M_aim_13 : decode b_M_aim 13 = .ok (.aload_n 0, 1) := by decide +kernel
theorem d_M_aim_14 : decode b_M_aim 14 = .ok (.getfield 73, 3) := by decide +kernel
theorem d_M_aim_17 : decode b_M_aim 17 = .ok (.if_icmp .ge 59, 3) := by decide +kernel
theorem d_M_aim_20 : decode b_M_aim 20 = .ok (.aload_n 0, 1) := by decide +kernel
theorem d_M_aim_21 : decode b_M_aim 21 = .ok (.iload_n 1, 1) := by decide +kernel
theorem d_M_aim_22 : decode b_M_aim 22 = .ok (.aload_n 0, 1) := by decide +kernel
theorem d_M_aim_23 : decode b_M_aim 23 = .ok (.getfield 53, 3) := by decide +kernel
theorem d_M_aim_26 : decode b_M_aim 26 = .ok (.iload_n 3, 1) := by decide +kernel
theorem d_M_aim_27 : decode b_M_aim 27 = .ok (.iaload, 1) := by decide +kernel
theorem d_M_aim_28 : decode b_M_aim 28 = .ok (.invokevirtual 94, 3) := by decide +kernel
theorem d_M_aim_31 : decode b_M_aim 31 = .ok (.ifCond .eq 39, 3) := by decide +kernel
theorem d_M_aim_34 : decode b_M_aim 34 = .ok (.aload_n 0, 1) := by decide +kernel
theorem d_M_aim_35 : decode b_M_aim 35 = .ok (.getfield 91, 3) := by decide +kernel
theorem d_M_aim_38 : decode b_M_aim 38 = .ok (.aload_n 0, 1) := by decide +kernel
theorem d_M_aim_39 : decode b_M_aim 39 = .ok (.getfield 59, 3) := by decide +kernel
theorem d_M_aim_42 : decode b_M_aim 42 = .ok (.if_icmp .ge 28, 3) := by decide +kernel
theorem d_M_aim_45 : decode b_M_aim 45 = .ok (.aload_n 0, 1) := by decide +kernel
theorem d_M_aim_46 : decode b_M_aim 46 = .ok (.getfield 56, 3) := by decide +kernel
theorem d_M_aim_49 : decode b_M_aim 49 = .ok (.aload_n 0, 1) := by decide +kernel
theorem d_M_aim_50 : decode b_M_aim 50 = .ok (.getfield 91, 3) := by decide +kernel
theorem d_M_aim_53 : decode b_M_aim 53 = .ok (.aload_n 0, 1) := by decide +kernel
theorem d_M_aim_54 : decode b_M_aim 54 = .ok (.getfield 53, 3) := by decide +kernel
theorem d_M_aim_57 : decode b_M_aim 57 = .ok (.iload_n 3, 1) := by decide +kernel
theorem d_M_aim_58 : decode b_M_aim 58 = .ok (.iaload, 1) := by decide +kernel
theorem d_M_aim_59 : decode b_M_aim 59 = .ok (.iastore, 1) := by decide +kernel
theorem d_M_aim_60 : decode b_M_aim 60 = .ok (.aload_n 0, 1) := by decide +kernel
theorem d_M_aim_61 : decode b_M_aim 61 = .ok (.dup, 1) := by decide +kernel
theorem d_M_aim_62 : decode b_M_aim 62 = .ok (.getfield 91, 3) := by decide +kernel
theorem d_M_aim_65 : decode b_M_aim 65 = .ok (.iconst 1, 1) := by decide +kernel
theorem d_M_aim_66 : decode b_M_aim 66 = .ok (.iadd, 1) := by decide +kernel
theorem d_M_aim_67 : decode b_M_aim 67 = .ok (.putfield 91, 3) := by decide +kernel
theorem d_M_aim_70 : decode b_M_aim 70 = .ok (.iinc 3 1, 3) := by decide +kernel
theorem d_M_aim_73 : decode b_M_aim 73 = .ok (.goto (-61), 3) := by decide +kernel
theorem d_M_aim_76 : decode b_M_aim 76 = .ok (.return_, 1) := by decide +kernel
theorem d_M_targets_0 : decode b_M_targets 0 = .ok (.iload_n 1, 1) := by decide +kernel
theorem d_M_targets_1 : decode b_M_targets 1 = .ok (.invokestatic 69, 3) := by decide +kernel
theorem d_M_targets_4 : decode b_M_targets 4 = .ok (.ifCond .eq 10, 3) := by decide +kernel
theorem d_M_targets_7 : decode b_M_targets 7 = .ok (.iload_n 2, 1) := by decide +kernel
theorem d_M_targets_8 : decode b_M_targets 8 = .ok (.invokestatic 84, 3) := by decide +kernel
theorem d_M_targets_11 : decode b_M_targets 11 = .ok (.ifCond .ne 5, 3) := by decide +kernel
theorem d_M_targets_14 : decode b_M_targets 14 = .ok (.iconst 0, 1) := by decide +kernel
theorem d_M_targets_15 : decode b_M_targets 15 = .ok (.ireturn, 1) := by decide +kernel
theorem d_M_targets_16 : decode b_M_targets 16 = .ok (.aload_n 0, 1) := by decide +kernel
theorem d_M_targets_17 : decode b_M_targets 17 = .ok (.iload_n 1, 1) := by decide +kernel
theorem d_M_targets_18 : decode b_M_targets 18 = .ok (.iload_n 2, 1) := by decide +kernel
theorem d_M_targets_19 : decode b_M_targets 19 = .ok (.invokevirtual 98, 3) := by decide +kernel
theorem d_M_targets_22 : decode b_M_targets 22 = .ok (.aload_n 0, 1) := by decide +kernel
theorem d_M_targets_23 : decode b_M_targets 23 = .ok (.getfield 91, 3) := by decide +kernel
theorem d_M_targets_26 : decode b_M_targets 26 = .ok (.ireturn, 1) := by decide +kernel
theorem d_M_standsFor_0 : decode b_M_standsFor 0 = .ok (.iconst 0, 1) := by decide +kernel
theorem d_M_standsFor_1 : decode b_M_standsFor 1 = .ok (.istore_n 3, 1) := by decide +kernel
theorem d_M_standsFor_2 : decode b_M_standsFor 2 = .ok (.iconst 0, 1) := by decide +kernel
theorem d_M_standsFor_3 : decode b_M_standsFor 3 = .ok (.istore 4, 2) := by decide +kernel
theorem d_M_standsFor_5 : decode b_M_standsFor 5 = .ok (.iload 4, 2) := by decide +kernel
theorem d_M_standsFor_7 : decode b_M_standsFor 7 = .ok (.iload_n 2, 1) := by decide +kernel
theorem d_M_standsFor_8 : decode b_M_standsFor 8 = .ok (.if_icmp .gt 35, 3) := by decide +kernel
theorem d_M_standsFor_11 : decode b_M_standsFor 11 = .ok (.aload_n 0, 1) := by decide +kernel
theorem d_M_standsFor_12 : decode b_M_standsFor 12 = .ok (.aload_n 0, 1) := by decide +kernel
theorem d_M_standsFor_13 : decode b_M_standsFor 13 = .ok (.getfield 56, 3) := by decide +kernel
theorem d_M_standsFor_16 : decode b_M_standsFor 16 = .ok (.iload 4, 2) := by decide +kernel
theorem d_M_standsFor_18 : decode b_M_standsFor 18 = .ok (.iaload, 1) := by decide +kernel
theorem d_M_standsFor_19 : decode b_M_standsFor 19 = .ok (.invokevirtual 76, 3) := by decide +kernel
theorem d_M_standsFor_22 : decode b_M_standsFor 22 = .ok (.aload_n 0, 1) := by decide +kernel
theorem d_M_standsFor_23 : decode b_M_standsFor 23 = .ok (.getfield 59, 3) := by decide +kernel
theorem d_M_standsFor_26 : decode b_M_standsFor 26 = .ok (.if_icmp .ge 7, 3) := by decide +kernel
theorem d_M_standsFor_29 : decode b_M_standsFor 29 = .ok (.iload_n 3, 1) := by decide +kernel
end
section
theorem d_M_standsFor_30 : decode b_M_standsFor 30 = .ok (.goto 6, 3) := by decide +kernel
theorem d_M_standsFor_33 : decode b_M_standsFor 33 = .ok (.iload_n 3, 1) := by decide +kernel
theorem d_M_standsFor_34 : decode b_M_standsFor 34 = .ok (.iconst 1, 1) := by decide +kernel
theorem d_M_standsFor_35 : decode b_M_standsFor 35 = .ok (.iadd, 1) := by decide +kernel
theorem d_M_standsFor_36 : decode b_M_standsFor 36 = .ok (.istore_n 3, 1) := by decide +kernel
theorem d_M_standsFor_37 : decode b_M_standsFor 37 = .ok (.iinc 4 1, 3) := by decide +kernel
theorem d_M_standsFor_40 : decode b_M_standsFor 40 = .ok (.goto (-35), 3) := by decide +kernel
theorem d_M_standsFor_43 : decode b_M_standsFor 43 = .ok (.aload_n 0, 1) := by decide +kernel
theorem d_M_standsFor_44 : decode b_M_standsFor 44 = .ok (.aload_n 0, 1) := by decide +kernel
theorem d_M_standsFor_45 : decode b_M_standsFor 45 = .ok (.getfield 56, 3) := by decide +kernel
theorem d_M_standsFor_48 : decode b_M_standsFor 48 = .ok (.iload_n 2, 1) := by decide +kernel
theorem d_M_standsFor_49 : decode b_M_standsFor 49 = .ok (.iaload, 1) := by decide +kernel
theorem d_M_standsFor_50 : decode b_M_standsFor 50 = .ok (.invokevirtual 76, 3) := by decide +kernel
theorem d_M_standsFor_53 : decode b_M_standsFor 53 = .ok (.aload_n 0, 1) := by decide +kernel
theorem d_M_standsFor_54 : decode b_M_standsFor 54 = .ok (.getfield 59, 3) := by decide +kernel
theorem d_M_standsFor_57 : decode b_M_standsFor 57 = .ok (.if_icmp .ge 5, 3) := by decide +kernel
theorem d_M_standsFor_60 : decode b_M_standsFor 60 = .ok (.iconst (-1), 1) := by decide +kernel
theorem d_M_standsFor_61 : decode b_M_standsFor 61 = .ok (.ireturn, 1) := by decide +kernel
theorem d_M_standsFor_62 : decode b_M_standsFor 62 = .ok (.iconst 0, 1) := by decide +kernel
theorem d_M_standsFor_63 : decode b_M_standsFor 63 = .ok (.istore 4, 2) := by decide +kernel
theorem d_M_standsFor_65 : decode b_M_standsFor 65 = .ok (.iload 4, 2) := by decide +kernel
theorem d_M_standsFor_67 : decode b_M_standsFor 67 = .ok (.aload_n 0, 1) := by decide +kernel
theorem d_M_standsFor_68 : decode b_M_standsFor 68 = .ok (.invokevirtual 87, 3) := by decide +kernel
theorem d_M_standsFor_71 : decode b_M_standsFor 71 = .ok (.if_icmp .ge 44, 3) := by decide +kernel
theorem d_M_standsFor_74 : decode b_M_standsFor 74 = .ok (.aload_n 0, 1) := by decide +kernel
theorem d_M_standsFor_75 : decode b_M_standsFor 75 = .ok (.iload_n 1, 1) := by decide +kernel
theorem d_M_standsFor_76 : decode b_M_standsFor 76 = .ok (.aload_n 0, 1) := by decide +kernel
theorem d_M_standsFor_77 : decode b_M_standsFor 77 = .ok (.getfield 53, 3) := by decide +kernel
theorem d_M_standsFor_80 : decode b_M_standsFor 80 = .ok (.iload 4, 2) := by decide +kernel
theorem d_M_standsFor_82 : decode b_M_standsFor 82 = .ok (.iaload, 1) := by decide +kernel
theorem d_M_standsFor_83 : decode b_M_standsFor 83 = .ok (.invokevirtual 94, 3) := by decide +kernel
theorem d_M_standsFor_86 : decode b_M_standsFor 86 = .ok (.ifCond .eq 7, 3) := by decide +kernel
theorem d_M_standsFor_89 : decode b_M_standsFor 89 = .ok (.iload_n 3, 1) := by decide +kernel
theorem d_M_standsFor_90 : decode b_M_standsFor 90 = .ok (.goto 6, 3) := by decide +kernel
theorem d_M_standsFor_93 : decode b_M_standsFor 93 = .ok (.iload_n 3, 1) := by decide +kernel
theorem d_M_standsFor_94 : decode b_M_standsFor 94 = .ok (.iconst 1, 1) := by decide +kernel
theorem d_M_standsFor_95 : decode b_M_standsFor 95 = .ok (.isub, 1) := by decide +kernel
theorem d_M_standsFor_96 : decode b_M_standsFor 96 = .ok (.istore_n 3, 1) := by decide +kernel
theorem d_M_standsFor_97 : decode b_M_standsFor 97 = .ok (.iload_n 3, 1) := by decide +kernel
theorem d_M_standsFor_98 : decode b_M_standsFor 98 = .ok (.ifCond .ne 11, 3) := by decide +kernel
theorem d_M_standsFor_101 : decode b_M_standsFor 101 = .ok (.aload_n 0, 1) := by decide +kernel
theorem d_M_standsFor_102 : decode b_M_standsFor 102 = .ok (.getfield 53, 3) := by decide +kernel
theorem d_M_standsFor_105 : decode b_M_standsFor 105 = .ok (.iload 4, 2) := by decide +kernel
theorem d_M_standsFor_107 : decode b_M_standsFor 107 = .ok (.iaload, 1) := by decide +kernel
theorem d_M_standsFor_108 : decode b_M_standsFor 108 = .ok (.ireturn, 1) := by decide +kernel
theorem d_M_standsFor_109 : decode b_M_standsFor 109 = .ok (.iinc 4 1, 3) := by decide +kernel
theorem d_M_standsFor_112 : decode b_M_standsFor 112 = .ok (.goto (-47), 3) := by decide +kernel
theorem d_M_standsFor_115 : decode b_M_standsFor 115 = .ok (.iconst (-1), 1) := by decide +kernel
theorem d_M_standsFor_116 : decode b_M_standsFor 116 = .ok (.ireturn, 1) := by decide +kernel
theorem d_M_below_0 : decode b_M_below 0 = .ok (.iconst 1, 1) := by decide +kernel
theorem d_M_below_1 : decode b_M_below 1 = .ok (.istore_n 3, 1) := by decide +kernel
theorem d_M_below_2 : decode b_M_below 2 = .ok (.iconst 0, 1) := by decide +kernel
theorem d_M_below_3 : decode b_M_below 3 = .ok (.istore 4, 2) := by decide +kernel
theorem d_M_below_5 : decode b_M_below 5 = .ok (.iload 4, 2) := by decide +kernel
theorem d_M_below_7 : decode b_M_below 7 = .ok (.iconst 5, 1) := by decide +kernel
theorem d_M_below_8 : decode b_M_below 8 = .ok (.if_icmp .ge 44, 3) := by decide +kernel
theorem d_M_below_11 : decode b_M_below 11 = .ok (.iload_n 3, 1) := by decide +kernel
theorem d_M_below_12 : decode b_M_below 12 = .ok (.ifCond .eq 32, 3) := by decide +kernel
theorem d_M_below_15 : decode b_M_below 15 = .ok (.aload_n 0, 1) := by decide +kernel
theorem d_M_below_16 : decode b_M_below 16 = .ok (.getfield 29, 3) := by decide +kernel
theorem d_M_below_19 : decode b_M_below 19 = .ok (.iconst 5, 1) := by decide +kernel
theorem d_M_below_20 : decode b_M_below 20 = .ok (.iload_n 1, 1) := by decide +kernel
theorem d_M_below_21 : decode b_M_below 21 = .ok (.imul, 1) := by decide +kernel
theorem d_M_below_22 : decode b_M_below 22 = .ok (.iload 4, 2) := by decide +kernel
theorem d_M_below_24 : decode b_M_below 24 = .ok (.iadd, 1) := by decide +kernel
theorem d_M_below_25 : decode b_M_below 25 = .ok (.iaload, 1) := by decide +kernel
theorem d_M_below_26 : decode b_M_below 26 = .ok (.aload_n 0, 1) := by decide +kernel
theorem d_M_below_27 : decode b_M_below 27 = .ok (.getfield 29, 3) := by decide +kernel
theorem d_M_below_30 : decode b_M_below 30 = .ok (.iconst 5, 1) := by decide +kernel
theorem d_M_below_31 : decode b_M_below 31 = .ok (.iload_n 2, 1) := by decide +kernel
theorem d_M_below_32 : decode b_M_below 32 = .ok (.imul, 1) := by decide +kernel
theorem d_M_below_33 : decode b_M_below 33 = .ok (.iload 4, 2) := by decide +kernel
theorem d_M_below_35 : decode b_M_below 35 = .ok (.iadd, 1) := by decide +kernel
theorem d_M_below_36 : decode b_M_below 36 = .ok (.iaload, 1) := by decide +kernel
theorem d_M_below_37 : decode b_M_below 37 = .ok (.if_icmp .gt 7, 3) := by decide +kernel
theorem d_M_below_40 : decode b_M_below 40 = .ok (.iconst 1, 1) := by decide +kernel
theorem d_M_below_41 : decode b_M_below 41 = .ok (.goto 4, 3) := by decide +kernel
theorem d_M_below_44 : decode b_M_below 44 = .ok (.iconst 0, 1) := by decide +kernel
theorem d_M_below_45 : decode b_M_below 45 = .ok (.istore_n 3, 1) := by decide +kernel
theorem d_M_below_46 : decode b_M_below 46 = .ok (.iinc 4 1, 3) := by decide +kernel
theorem d_M_below_49 : decode b_M_below 49 = .ok (.goto (-44), 3) := by decide +kernel
theorem d_M_below_52 : decode b_M_below 52 = .ok (.iload_n 3, 1) := by decide +kernel
theorem d_M_below_53 : decode b_M_below 53 = .ok (.ireturn, 1) := by decide +kernel
theorem d_M_take_0 : decode b_M_take 0 = .ok (.iconst 0, 1) := by decide +kernel
theorem d_M_take_1 : decode b_M_take 1 = .ok (.istore_n 3, 1) := by decide +kernel
theorem d_M_take_2 : decode b_M_take 2 = .ok (.iload_n 3, 1) := by decide +kernel
theorem d_M_take_3 : decode b_M_take 3 = .ok (.aload_n 0, 1) := by decide +kernel
theorem d_M_take_4 : decode b_M_take 4 = .ok (.getfield 102, 3) := by decide +kernel
theorem d_M_take_7 : decode b_M_take 7 = .ok (.if_icmp .ge 48, 3) := by decide +kernel
theorem d_M_take_10 : decode b_M_take 10 = .ok (.aload_n 0, 1) := by decide +kernel
theorem d_M_take_11 : decode b_M_take 11 = .ok (.getfield 32, 3) := by decide +kernel
theorem d_M_take_14 : decode b_M_take 14 = .ok (.bipush 40, 2) := by decide +kernel
theorem d_M_take_16 : decode b_M_take 16 = .ok (.iload_n 1, 1) := by decide +kernel
theorem d_M_take_17 : decode b_M_take 17 = .ok (.imul, 1) := by decide +kernel
theorem d_M_take_18 : decode b_M_take 18 = .ok (.iload_n 3, 1) := by decide +kernel
theorem d_M_take_19 : decode b_M_take 19 = .ok (.iadd, 1) := by decide +kernel
theorem d_M_take_20 : decode b_M_take 20 = .ok (.baload, 1) := by decide +kernel
theorem d_M_take_21 : decode b_M_take 21 = .ok (.ifCond .eq 28, 3) := by decide +kernel
theorem d_M_take_24 : decode b_M_take 24 = .ok (.aload_n 0, 1) := by decide +kernel
theorem d_M_take_25 : decode b_M_take 25 = .ok (.getfield 20, 3) := by decide +kernel
theorem d_M_take_28 : decode b_M_take 28 = .ok (.iload_n 3, 1) := by decide +kernel
theorem d_M_take_29 : decode b_M_take 29 = .ok (.iaload, 1) := by decide +kernel
theorem d_M_take_30 : decode b_M_take 30 = .ok (.aload_n 0, 1) := by decide +kernel
theorem d_M_take_31 : decode b_M_take 31 = .ok (.getfield 20, 3) := by decide +kernel
theorem d_M_take_34 : decode b_M_take 34 = .ok (.iload_n 2, 1) := by decide +kernel
theorem d_M_take_35 : decode b_M_take 35 = .ok (.iaload, 1) := by decide +kernel
theorem d_M_take_36 : decode b_M_take 36 = .ok (.if_icmp .ne 13, 3) := by decide +kernel
theorem d_M_take_39 : decode b_M_take 39 = .ok (.aload_n 0, 1) := by decide +kernel
theorem d_M_take_40 : decode b_M_take 40 = .ok (.iload_n 2, 1) := by decide +kernel
theorem d_M_take_41 : decode b_M_take 41 = .ok (.iload_n 3, 1) := by decide +kernel
theorem d_M_take_42 : decode b_M_take 42 = .ok (.invokevirtual 105, 3) := by decide +kernel
theorem d_M_take_45 : decode b_M_take 45 = .ok (.ifCond .eq 4, 3) := by decide +kernel
theorem d_M_take_48 : decode b_M_take 48 = .ok (.return_, 1) := by decide +kernel
theorem d_M_take_49 : decode b_M_take 49 = .ok (.iinc 3 1, 3) := by decide +kernel
theorem d_M_take_52 : decode b_M_take 52 = .ok (.goto (-50), 3) := by decide +kernel
theorem d_M_take_55 : decode b_M_take 55 = .ok (.iconst 0, 1) := by decide +kernel
theorem d_M_take_56 : decode b_M_take 56 = .ok (.istore_n 3, 1) := by decide +kernel
theorem d_M_take_57 : decode b_M_take 57 = .ok (.iload_n 3, 1) := by decide +kernel
theorem d_M_take_58 : decode b_M_take 58 = .ok (.aload_n 0, 1) := by decide +kernel
theorem d_M_take_59 : decode b_M_take 59 = .ok (.getfield 102, 3) := by decide +kernel
theorem d_M_take_62 : decode b_M_take 62 = .ok (.if_icmp .ge 45, 3) := by decide +kernel
theorem d_M_take_65 : decode b_M_take 65 = .ok (.aload_n 0, 1) := by decide +kernel
theorem d_M_take_66 : decode b_M_take 66 = .ok (.getfield 20, 3) := by decide +kernel
theorem d_M_take_69 : decode b_M_take 69 = .ok (.iload_n 3, 1) := by decide +kernel
theorem d_M_take_70 : decode b_M_take 70 = .ok (.iaload, 1) := by decide +kernel
theorem d_M_take_71 : decode b_M_take 71 = .ok (.aload_n 0, 1) := by decide +kernel
theorem d_M_take_72 : decode b_M_take 72 = .ok (.getfield 20, 3) := by decide +kernel
theorem d_M_take_75 : decode b_M_take 75 = .ok (.iload_n 2, 1) := by decide +kernel
theorem d_M_take_76 : decode b_M_take 76 = .ok (.iaload, 1) := by decide +kernel
theorem d_M_take_77 : decode b_M_take 77 = .ok (.if_icmp .ne 24, 3) := by decide +kernel
theorem d_M_take_80 : decode b_M_take 80 = .ok (.aload_n 0, 1) := by decide +kernel
theorem d_M_take_81 : decode b_M_take 81 = .ok (.iload_n 3, 1) := by decide +kernel
theorem d_M_take_82 : decode b_M_take 82 = .ok (.iload_n 2, 1) := by decide +kernel
theorem d_M_take_83 : decode b_M_take 83 = .ok (.invokevirtual 105, 3) := by decide +kernel
theorem d_M_take_86 : decode b_M_take 86 = .ok (.ifCond .eq 15, 3) := by decide +kernel
theorem d_M_take_89 : decode b_M_take 89 = .ok (.aload_n 0, 1) := by decide +kernel
theorem d_M_take_90 : decode b_M_take 90 = .ok (.getfield 32, 3) := by decide +kernel
theorem d_M_take_93 : decode b_M_take 93 = .ok (.bipush 40, 2) := by decide +kernel
theorem d_M_take_95 : decode b_M_take 95 = .ok (.iload_n 1, 1) := by decide +kernel
theorem d_M_take_96 : decode b_M_take 96 = .ok (.imul, 1) := by decide +kernel
theorem d_M_take_97 : decode b_M_take 97 = .ok (.iload_n 3, 1) := by decide +kernel
theorem d_M_take_98 : decode b_M_take 98 = .ok (.iadd, 1) := by decide +kernel
theorem d_M_take_99 : decode b_M_take 99 = .ok (.iconst 0, 1) := by decide +kernel
theorem d_M_take_100 : decode b_M_take 100 = .ok (.bastore, 1) := by decide +kernel
theorem d_M_take_101 : decode b_M_take 101 = .ok (.iinc 3 1, 3) := by decide +kernel
theorem d_M_take_104 : decode b_M_take 104 = .ok (.goto (-47), 3) := by decide +kernel
theorem d_M_take_107 : decode b_M_take 107 = .ok (.aload_n 0, 1) := by decide +kernel
theorem d_M_take_108 : decode b_M_take 108 = .ok (.getfield 32, 3) := by decide +kernel
theorem d_M_take_111 : decode b_M_take 111 = .ok (.bipush 40, 2) := by decide +kernel
theorem d_M_take_113 : decode b_M_take 113 = .ok (.iload_n 1, 1) := by decide +kernel
theorem d_M_take_114 : decode b_M_take 114 = .ok (.imul, 1) := by decide +kernel
theorem d_M_take_115 : decode b_M_take 115 = .ok (.iload_n 2, 1) := by decide +kernel
theorem d_M_take_116 : decode b_M_take 116 = .ok (.iadd, 1) := by decide +kernel
theorem d_M_take_117 : decode b_M_take 117 = .ok (.iconst 1, 1) := by decide +kernel
theorem d_M_take_118 : decode b_M_take 118 = .ok (.bastore, 1) := by decide +kernel
theorem d_M_take_119 : decode b_M_take 119 = .ok (.return_, 1) := by decide +kernel
theorem d_M_put_0 : decode b_M_put 0 = .ok (.iload_n 1, 1) := by decide +kernel
theorem d_M_put_1 : decode b_M_put 1 = .ok (.invokestatic 69, 3) := by decide +kernel
theorem d_M_put_4 : decode b_M_put 4 = .ok (.ifCond .eq 48, 3) := by decide +kernel
theorem d_M_put_7 : decode b_M_put 7 = .ok (.iload_n 2, 1) := by decide +kernel
theorem d_M_put_8 : decode b_M_put 8 = .ok (.invokestatic 84, 3) := by decide +kernel
theorem d_M_put_11 : decode b_M_put 11 = .ok (.ifCond .eq 41, 3) := by decide +kernel
theorem d_M_put_14 : decode b_M_put 14 = .ok (.iload 4, 2) := by decide +kernel
theorem d_M_put_16 : decode b_M_put 16 = .ok (.iconst (-1), 1) := by decide +kernel
theorem d_M_put_17 : decode b_M_put 17 = .ok (.if_icmp .lt 35, 3) := by decide +kernel
theorem d_M_put_20 : decode b_M_put 20 = .ok (.iload 4, 2) := by decide +kernel
theorem d_M_put_22 : decode b_M_put 22 = .ok (.iconst 3, 1) := by decide +kernel
theorem d_M_put_23 : decode b_M_put 23 = .ok (.if_icmp .gt 29, 3) := by decide +kernel
theorem d_M_put_26 : decode b_M_put 26 = .ok (.iload 4, 2) := by decide +kernel
theorem d_M_put_28 : decode b_M_put 28 = .ok (.ifCond .lt 26, 3) := by decide +kernel
theorem d_M_put_31 : decode b_M_put 31 = .ok (.aload_n 0, 1) := by decide +kernel
theorem d_M_put_32 : decode b_M_put 32 = .ok (.getfield 44, 3) := by decide +kernel
theorem d_M_put_35 : decode b_M_put 35 = .ok (.iload 4, 2) := by decide +kernel
theorem d_M_put_37 : decode b_M_put 37 = .ok (.baload, 1) := by decide +kernel
theorem d_M_put_38 : decode b_M_put 38 = .ok (.ifCond .eq 16, 3) := by decide +kernel
theorem d_M_put_41 : decode b_M_put 41 = .ok (.aload_n 0, 1) := by decide +kernel
theorem d_M_put_42 : decode b_M_put 42 = .ok (.getfield 41, 3) := by decide +kernel
theorem d_M_put_45 : decode b_M_put 45 = .ok (.iload 4, 2) := by decide +kernel
theorem d_M_put_47 : decode b_M_put 47 = .ok (.iaload, 1) := by decide +kernel
theorem d_M_put_48 : decode b_M_put 48 = .ok (.iload_n 2, 1) := by decide +kernel
theorem d_M_put_49 : decode b_M_put 49 = .ok (.if_icmp .eq 5, 3) := by decide +kernel
theorem d_M_put_52 : decode b_M_put 52 = .ok (.iconst (-1), 1) := by decide +kernel
theorem d_M_put_53 : decode b_M_put 53 = .ok (.ireturn, 1) := by decide +kernel
theorem d_M_put_54 : decode b_M_put 54 = .ok (.aload_n 0, 1) := by decide +kernel
theorem d_M_put_55 : decode b_M_put 55 = .ok (.getfield 7, 3) := by decide +kernel
theorem d_M_put_58 : decode b_M_put 58 = .ok (.iload_n 1, 1) := by decide +kernel
theorem d_M_put_59 : decode b_M_put 59 = .ok (.baload, 1) := by decide +kernel
theorem d_M_put_60 : decode b_M_put 60 = .ok (.ifCond .eq 6, 3) := by decide +kernel
theorem d_M_put_63 : decode b_M_put 63 = .ok (.bipush (-2), 2) := by decide +kernel
theorem d_M_put_65 : decode b_M_put 65 = .ok (.ireturn, 1) := by decide +kernel
theorem d_M_put_66 : decode b_M_put 66 = .ok (.aload_n 0, 1) := by decide +kernel
theorem d_M_put_67 : decode b_M_put 67 = .ok (.getfield 102, 3) := by decide +kernel
theorem d_M_put_70 : decode b_M_put 70 = .ok (.bipush 40, 2) := by decide +kernel
theorem d_M_put_72 : decode b_M_put 72 = .ok (.if_icmp .ne 6, 3) := by decide +kernel
theorem d_M_put_75 : decode b_M_put 75 = .ok (.bipush (-3), 2) := by decide +kernel
theorem d_M_put_77 : decode b_M_put 77 = .ok (.ireturn, 1) := by decide +kernel
theorem d_M_put_78 : decode b_M_put 78 = .ok (.aload_n 0, 1) := by decide +kernel
theorem d_M_put_79 : decode b_M_put 79 = .ok (.iload_n 1, 1) := by decide +kernel
theorem d_M_put_80 : decode b_M_put 80 = .ok (.iload_n 2, 1) := by decide +kernel
theorem d_M_put_81 : decode b_M_put 81 = .ok (.invokevirtual 98, 3) := by decide +kernel
theorem d_M_put_84 : decode b_M_put 84 = .ok (.aload_n 0, 1) := by decide +kernel
theorem d_M_put_85 : decode b_M_put 85 = .ok (.getfield 91, 3) := by decide +kernel
theorem d_M_put_88 : decode b_M_put 88 = .ok (.aload_n 0, 1) := by decide +kernel
theorem d_M_put_89 : decode b_M_put 89 = .ok (.getfield 66, 3) := by decide +kernel
theorem d_M_put_92 : decode b_M_put 92 = .ok (.if_icmp .ge 6, 3) := by decide +kernel
theorem d_M_put_95 : decode b_M_put 95 = .ok (.bipush (-4), 2) := by decide +kernel
theorem d_M_put_97 : decode b_M_put 97 = .ok (.ireturn, 1) := by decide +kernel
theorem d_M_put_98 : decode b_M_put 98 = .ok (.iconst 1, 1) := by decide +kernel
theorem d_M_put_99 : decode b_M_put 99 = .ok (.istore 5, 2) := by decide +kernel
theorem d_M_put_101 : decode b_M_put 101 = .ok (.iconst 0, 1) := by decide +kernel
theorem d_M_put_102 : decode b_M_put 102 = .ok (.istore 6, 2) := by decide +kernel
theorem d_M_put_104 : decode b_M_put 104 = .ok (.iload 6, 2) := by decide +kernel
theorem d_M_put_106 : decode b_M_put 106 = .ok (.aload_n 0, 1) := by decide +kernel
theorem d_M_put_107 : decode b_M_put 107 = .ok (.getfield 102, 3) := by decide +kernel
theorem d_M_put_110 : decode b_M_put 110 = .ok (.if_icmp .ge 42, 3) := by decide +kernel
theorem d_M_put_113 : decode b_M_put 113 = .ok (.aload_n 0, 1) := by decide +kernel
theorem d_M_put_114 : decode b_M_put 114 = .ok (.getfield 20, 3) := by decide +kernel
theorem d_M_put_117 : decode b_M_put 117 = .ok (.iload 6, 2) := by decide +kernel
theorem d_M_put_119 : decode b_M_put 119 = .ok (.iaload, 1) := by decide +kernel
theorem d_M_put_120 : decode b_M_put 120 = .ok (.iload_n 2, 1) := by decide +kernel
theorem d_M_put_121 : decode b_M_put 121 = .ok (.if_icmp .ne 21, 3) := by decide +kernel
theorem d_M_put_124 : decode b_M_put 124 = .ok (.aload_n 0, 1) := by decide +kernel
theorem d_M_put_125 : decode b_M_put 125 = .ok (.getfield 26, 3) := by decide +kernel
theorem d_M_put_128 : decode b_M_put 128 = .ok (.iload 6, 2) := by decide +kernel
theorem d_M_put_130 : decode b_M_put 130 = .ok (.iaload, 1) := by decide +kernel
theorem d_M_put_131 : decode b_M_put 131 = .ok (.iload_n 1, 1) := by decide +kernel
theorem d_M_put_132 : decode b_M_put 132 = .ok (.if_icmp .ne 10, 3) := by decide +kernel
theorem d_M_put_135 : decode b_M_put 135 = .ok (.iload 5, 2) := by decide +kernel
theorem d_M_put_137 : decode b_M_put 137 = .ok (.iconst 1, 1) := by decide +kernel
theorem d_M_put_138 : decode b_M_put 138 = .ok (.iadd, 1) := by decide +kernel
theorem d_M_put_139 : decode b_M_put 139 = .ok (.goto 5, 3) := by decide +kernel
theorem d_M_put_142 : decode b_M_put 142 = .ok (.iload 5, 2) := by decide +kernel
theorem d_M_put_144 : decode b_M_put 144 = .ok (.istore 5, 2) := by decide +kernel
theorem d_M_put_146 : decode b_M_put 146 = .ok (.iinc 6 1, 3) := by decide +kernel
theorem d_M_put_149 : decode b_M_put 149 = .ok (.goto (-45), 3) := by decide +kernel
theorem d_M_put_152 : decode b_M_put 152 = .ok (.aload_n 0, 1) := by decide +kernel
theorem d_M_put_153 : decode b_M_put 153 = .ok (.getfield 102, 3) := by decide +kernel
theorem d_M_put_156 : decode b_M_put 156 = .ok (.istore 6, 2) := by decide +kernel
theorem d_M_put_158 : decode b_M_put 158 = .ok (.aload_n 0, 1) := by decide +kernel
theorem d_M_put_159 : decode b_M_put 159 = .ok (.dup, 1) := by decide +kernel
theorem d_M_put_160 : decode b_M_put 160 = .ok (.getfield 102, 3) := by decide +kernel
theorem d_M_put_163 : decode b_M_put 163 = .ok (.iconst 1, 1) := by decide +kernel
theorem d_M_put_164 : decode b_M_put 164 = .ok (.iadd, 1) := by decide +kernel
theorem d_M_put_165 : decode b_M_put 165 = .ok (.putfield 102, 3) := by decide +kernel
theorem d_M_put_168 : decode b_M_put 168 = .ok (.aload_n 0, 1) := by decide +kernel
theorem d_M_put_169 : decode b_M_put 169 = .ok (.getfield 20, 3) := by decide +kernel
theorem d_M_put_172 : decode b_M_put 172 = .ok (.iload 6, 2) := by decide +kernel
theorem d_M_put_174 : decode b_M_put 174 = .ok (.iload_n 2, 1) := by decide +kernel
theorem d_M_put_175 : decode b_M_put 175 = .ok (.iastore, 1) := by decide +kernel
theorem d_M_put_176 : decode b_M_put 176 = .ok (.aload_n 0, 1) := by decide +kernel
theorem d_M_put_177 : decode b_M_put 177 = .ok (.getfield 23, 3) := by decide +kernel
theorem d_M_put_180 : decode b_M_put 180 = .ok (.iload 6, 2) := by decide +kernel
theorem d_M_put_182 : decode b_M_put 182 = .ok (.iload_n 3, 1) := by decide +kernel
theorem d_M_put_183 : decode b_M_put 183 = .ok (.iastore, 1) := by decide +kernel
theorem d_M_put_184 : decode b_M_put 184 = .ok (.aload_n 0, 1) := by decide +kernel
theorem d_M_put_185 : decode b_M_put 185 = .ok (.getfield 26, 3) := by decide +kernel
theorem d_M_put_188 : decode b_M_put 188 = .ok (.iload 6, 2) := by decide +kernel
theorem d_M_put_190 : decode b_M_put 190 = .ok (.iload_n 1, 1) := by decide +kernel
theorem d_M_put_191 : decode b_M_put 191 = .ok (.iastore, 1) := by decide +kernel
theorem d_M_put_192 : decode b_M_put 192 = .ok (.iconst 0, 1) := by decide +kernel
theorem d_M_put_193 : decode b_M_put 193 = .ok (.istore 7, 2) := by decide +kernel
theorem d_M_put_195 : decode b_M_put 195 = .ok (.iload 7, 2) := by decide +kernel
theorem d_M_put_197 : decode b_M_put 197 = .ok (.iconst 5, 1) := by decide +kernel
theorem d_M_put_198 : decode b_M_put 198 = .ok (.if_icmp .ge 52, 3) := by decide +kernel
theorem d_M_put_201 : decode b_M_put 201 = .ok (.aload_n 0, 1) := by decide +kernel
theorem d_M_put_202 : decode b_M_put 202 = .ok (.getfield 29, 3) := by decide +kernel
theorem d_M_put_205 : decode b_M_put 205 = .ok (.iconst 5, 1) := by decide +kernel
theorem d_M_put_206 : decode b_M_put 206 = .ok (.iload 6, 2) := by decide +kernel
theorem d_M_put_208 : decode b_M_put 208 = .ok (.imul, 1) := by decide +kernel
theorem d_M_put_209 : decode b_M_put 209 = .ok (.iload 7, 2) := by decide +kernel
theorem d_M_put_211 : decode b_M_put 211 = .ok (.iadd, 1) := by decide +kernel
theorem d_M_put_212 : decode b_M_put 212 = .ok (.iload 4, 2) := by decide +kernel
theorem d_M_put_214 : decode b_M_put 214 = .ok (.ifCond .lt 28, 3) := by decide +kernel
theorem d_M_put_217 : decode b_M_put 217 = .ok (.aload_n 0, 1) := by decide +kernel
theorem d_M_put_218 : decode b_M_put 218 = .ok (.getfield 44, 3) := by decide +kernel
theorem d_M_put_221 : decode b_M_put 221 = .ok (.iload 4, 2) := by decide +kernel
theorem d_M_put_223 : decode b_M_put 223 = .ok (.baload, 1) := by decide +kernel
theorem d_M_put_224 : decode b_M_put 224 = .ok (.ifCond .eq 18, 3) := by decide +kernel
theorem d_M_put_227 : decode b_M_put 227 = .ok (.aload_n 0, 1) := by decide +kernel
theorem d_M_put_228 : decode b_M_put 228 = .ok (.getfield 47, 3) := by decide +kernel
theorem d_M_put_231 : decode b_M_put 231 = .ok (.iconst 5, 1) := by decide +kernel
theorem d_M_put_232 : decode b_M_put 232 = .ok (.iload 4, 2) := by decide +kernel
theorem d_M_put_234 : decode b_M_put 234 = .ok (.imul, 1) := by decide +kernel
theorem d_M_put_235 : decode b_M_put 235 = .ok (.iload 7, 2) := by decide +kernel
theorem d_M_put_237 : decode b_M_put 237 = .ok (.iadd, 1) := by decide +kernel
theorem d_M_put_238 : decode b_M_put 238 = .ok (.iaload, 1) := by decide +kernel
theorem d_M_put_239 : decode b_M_put 239 = .ok (.goto 4, 3) := by decide +kernel
theorem d_M_put_242 : decode b_M_put 242 = .ok (.iconst 0, 1) := by decide +kernel
theorem d_M_put_243 : decode b_M_put 243 = .ok (.iastore, 1) := by decide +kernel
theorem d_M_put_244 : decode b_M_put 244 = .ok (.iinc 7 1, 3) := by decide +kernel
theorem d_M_put_247 : decode b_M_put 247 = .ok (.goto (-52), 3) := by decide +kernel
theorem d_M_put_250 : decode b_M_put 250 = .ok (.aload_n 0, 1) := by decide +kernel
theorem d_M_put_251 : decode b_M_put 251 = .ok (.getfield 29, 3) := by decide +kernel
theorem d_M_put_254 : decode b_M_put 254 = .ok (.iconst 5, 1) := by decide +kernel
theorem d_M_put_255 : decode b_M_put 255 = .ok (.iload 6, 2) := by decide +kernel
theorem d_M_put_257 : decode b_M_put 257 = .ok (.imul, 1) := by decide +kernel
theorem d_M_put_258 : decode b_M_put 258 = .ok (.iload_n 1, 1) := by decide +kernel
theorem d_M_put_259 : decode b_M_put 259 = .ok (.iadd, 1) := by decide +kernel
theorem d_M_put_260 : decode b_M_put 260 = .ok (.iload 5, 2) := by decide +kernel
theorem d_M_put_262 : decode b_M_put 262 = .ok (.iastore, 1) := by decide +kernel
theorem d_M_put_263 : decode b_M_put 263 = .ok (.iconst 0, 1) := by decide +kernel
theorem d_M_put_264 : decode b_M_put 264 = .ok (.istore 7, 2) := by decide +kernel
theorem d_M_put_266 : decode b_M_put 266 = .ok (.iload 7, 2) := by decide +kernel
theorem d_M_put_268 : decode b_M_put 268 = .ok (.aload_n 0, 1) := by decide +kernel
theorem d_M_put_269 : decode b_M_put 269 = .ok (.getfield 91, 3) := by decide +kernel
theorem d_M_put_272 : decode b_M_put 272 = .ok (.if_icmp .ge 61, 3) := by decide +kernel
theorem d_M_put_275 : decode b_M_put 275 = .ok (.aload_n 0, 1) := by decide +kernel
theorem d_M_put_276 : decode b_M_put 276 = .ok (.iload_n 1, 1) := by decide +kernel
theorem d_M_put_277 : decode b_M_put 277 = .ok (.iload 7, 2) := by decide +kernel
theorem d_M_put_279 : decode b_M_put 279 = .ok (.invokevirtual 108, 3) := by decide +kernel
theorem d_M_put_282 : decode b_M_put 282 = .ok (.istore 8, 2) := by decide +kernel
theorem d_M_put_284 : decode b_M_put 284 = .ok (.iload 8, 2) := by decide +kernel
theorem d_M_put_286 : decode b_M_put 286 = .ok (.ifCond .ge 19, 3) := by decide +kernel
theorem d_M_put_289 : decode b_M_put 289 = .ok (.aload_n 0, 1) := by decide +kernel
theorem d_M_put_290 : decode b_M_put 290 = .ok (.aload_n 0, 1) := by decide +kernel
theorem d_M_put_291 : decode b_M_put 291 = .ok (.getfield 56, 3) := by decide +kernel
theorem d_M_put_294 : decode b_M_put 294 = .ok (.iload 7, 2) := by decide +kernel
theorem d_M_put_296 : decode b_M_put 296 = .ok (.iaload, 1) := by decide +kernel
theorem d_M_put_297 : decode b_M_put 297 = .ok (.iload 6, 2) := by decide +kernel
theorem d_M_put_299 : decode b_M_put 299 = .ok (.invokevirtual 112, 3) := by decide +kernel
theorem d_M_put_302 : decode b_M_put 302 = .ok (.goto 25, 3) := by decide +kernel
theorem d_M_put_305 : decode b_M_put 305 = .ok (.aload_n 0, 1) := by decide +kernel
theorem d_M_put_306 : decode b_M_put 306 = .ok (.getfield 35, 3) := by decide +kernel
theorem d_M_put_309 : decode b_M_put 309 = .ok (.bipush 40, 2) := by decide +kernel
theorem d_M_put_311 : decode b_M_put 311 = .ok (.aload_n 0, 1) := by decide +kernel
theorem d_M_put_312 : decode b_M_put 312 = .ok (.getfield 56, 3) := by decide +kernel
theorem d_M_put_315 : decode b_M_put 315 = .ok (.iload 7, 2) := by decide +kernel
theorem d_M_put_317 : decode b_M_put 317 = .ok (.iaload, 1) := by decide +kernel
theorem d_M_put_318 : decode b_M_put 318 = .ok (.imul, 1) := by decide +kernel
theorem d_M_put_319 : decode b_M_put 319 = .ok (.iload 6, 2) := by decide +kernel
theorem d_M_put_321 : decode b_M_put 321 = .ok (.iadd, 1) := by decide +kernel
theorem d_M_put_322 : decode b_M_put 322 = .ok (.iload 8, 2) := by decide +kernel
theorem d_M_put_324 : decode b_M_put 324 = .ok (.iconst 1, 1) := by decide +kernel
theorem d_M_put_325 : decode b_M_put 325 = .ok (.iadd, 1) := by decide +kernel
theorem d_M_put_326 : decode b_M_put 326 = .ok (.iastore, 1) := by decide +kernel
theorem d_M_put_327 : decode b_M_put 327 = .ok (.iinc 7 1, 3) := by decide +kernel
theorem d_M_put_330 : decode b_M_put 330 = .ok (.goto (-64), 3) := by decide +kernel
theorem d_M_put_333 : decode b_M_put 333 = .ok (.iload 6, 2) := by decide +kernel
theorem d_M_put_335 : decode b_M_put 335 = .ok (.ireturn, 1) := by decide +kernel
theorem d_M_shown_0 : decode b_M_shown 0 = .ok (.iconst 0, 1) := by decide +kernel
theorem d_M_shown_1 : decode b_M_shown 1 = .ok (.istore_n 2, 1) := by decide +kernel
theorem d_M_shown_2 : decode b_M_shown 2 = .ok (.iconst 0, 1) := by decide +kernel
theorem d_M_shown_3 : decode b_M_shown 3 = .ok (.istore_n 3, 1) := by decide +kernel
theorem d_M_shown_4 : decode b_M_shown 4 = .ok (.iload_n 3, 1) := by decide +kernel
theorem d_M_shown_5 : decode b_M_shown 5 = .ok (.aload_n 0, 1) := by decide +kernel
theorem d_M_shown_6 : decode b_M_shown 6 = .ok (.getfield 91, 3) := by decide +kernel
theorem d_M_shown_9 : decode b_M_shown 9 = .ok (.if_icmp .ge 57, 3) := by decide +kernel
theorem d_M_shown_12 : decode b_M_shown 12 = .ok (.iload_n 2, 1) := by decide +kernel
theorem d_M_shown_13 : decode b_M_shown 13 = .ok (.ifCond .ne 41, 3) := by decide +kernel
theorem d_M_shown_16 : decode b_M_shown 16 = .ok (.aload_n 0, 1) := by decide +kernel
theorem d_M_shown_17 : decode b_M_shown 17 = .ok (.getfield 32, 3) := by decide +kernel
theorem d_M_shown_20 : decode b_M_shown 20 = .ok (.bipush 40, 2) := by decide +kernel
theorem d_M_shown_22 : decode b_M_shown 22 = .ok (.aload_n 0, 1) := by decide +kernel
theorem d_M_shown_23 : decode b_M_shown 23 = .ok (.getfield 56, 3) := by decide +kernel
theorem d_M_shown_26 : decode b_M_shown 26 = .ok (.iload_n 3, 1) := by decide +kernel
theorem d_M_shown_27 : decode b_M_shown 27 = .ok (.iaload, 1) := by decide +kernel
theorem d_M_shown_28 : decode b_M_shown 28 = .ok (.imul, 1) := by decide +kernel
theorem d_M_shown_29 : decode b_M_shown 29 = .ok (.iload_n 1, 1) := by decide +kernel
theorem d_M_shown_30 : decode b_M_shown 30 = .ok (.iadd, 1) := by decide +kernel
theorem d_M_shown_31 : decode b_M_shown 31 = .ok (.baload, 1) := by decide +kernel
theorem d_M_shown_32 : decode b_M_shown 32 = .ok (.ifCond .ne 22, 3) := by decide +kernel
theorem d_M_shown_35 : decode b_M_shown 35 = .ok (.aload_n 0, 1) := by decide +kernel
theorem d_M_shown_36 : decode b_M_shown 36 = .ok (.getfield 35, 3) := by decide +kernel
theorem d_M_shown_39 : decode b_M_shown 39 = .ok (.bipush 40, 2) := by decide +kernel
theorem d_M_shown_41 : decode b_M_shown 41 = .ok (.aload_n 0, 1) := by decide +kernel
theorem d_M_shown_42 : decode b_M_shown 42 = .ok (.getfield 56, 3) := by decide +kernel
theorem d_M_shown_45 : decode b_M_shown 45 = .ok (.iload_n 3, 1) := by decide +kernel
theorem d_M_shown_46 : decode b_M_shown 46 = .ok (.iaload, 1) := by decide +kernel
theorem d_M_shown_47 : decode b_M_shown 47 = .ok (.imul, 1) := by decide +kernel
theorem d_M_shown_48 : decode b_M_shown 48 = .ok (.iload_n 1, 1) := by decide +kernel
theorem d_M_shown_49 : decode b_M_shown 49 = .ok (.iadd, 1) := by decide +kernel
theorem d_M_shown_50 : decode b_M_shown 50 = .ok (.iaload, 1) := by decide +kernel
theorem d_M_shown_51 : decode b_M_shown 51 = .ok (.ifCond .le 7, 3) := by decide +kernel
theorem d_M_shown_54 : decode b_M_shown 54 = .ok (.iconst 1, 1) := by decide +kernel
theorem d_M_shown_55 : decode b_M_shown 55 = .ok (.goto 4, 3) := by decide +kernel
theorem d_M_shown_58 : decode b_M_shown 58 = .ok (.iconst 0, 1) := by decide +kernel
theorem d_M_shown_59 : decode b_M_shown 59 = .ok (.istore_n 2, 1) := by decide +kernel
theorem d_M_shown_60 : decode b_M_shown 60 = .ok (.iinc 3 1, 3) := by decide +kernel
theorem d_M_shown_63 : decode b_M_shown 63 = .ok (.goto (-59), 3) := by decide +kernel
theorem d_M_shown_66 : decode b_M_shown 66 = .ok (.iload_n 2, 1) := by decide +kernel
theorem d_M_shown_67 : decode b_M_shown 67 = .ok (.ireturn, 1) := by decide +kernel
theorem d_M_isFound_0 : decode b_M_isFound 0 = .ok (.aload_n 0, 1) := by decide +kernel
theorem d_M_isFound_1 : decode b_M_isFound 1 = .ok (.getfield 20, 3) := by decide +kernel
theorem d_M_isFound_4 : decode b_M_isFound 4 = .ok (.iload_n 1, 1) := by decide +kernel
theorem d_M_isFound_5 : decode b_M_isFound 5 = .ok (.iaload, 1) := by decide +kernel
theorem d_M_isFound_6 : decode b_M_isFound 6 = .ok (.iload_n 2, 1) := by decide +kernel
theorem d_M_isFound_7 : decode b_M_isFound 7 = .ok (.if_icmp .ne 11, 3) := by decide +kernel
theorem d_M_isFound_10 : decode b_M_isFound 10 = .ok (.aload_n 0, 1) := by decide +kernel
theorem d_M_isFound_11 : decode b_M_isFound 11 = .ok (.iload_n 1, 1) := by decide +kernel
theorem d_M_isFound_12 : decode b_M_isFound 12 = .ok (.invokevirtual 115, 3) := by decide +kernel
theorem d_M_isFound_15 : decode b_M_isFound 15 = .ok (.ifCond .ne 5, 3) := by decide +kernel
theorem d_M_isFound_18 : decode b_M_isFound 18 = .ok (.iconst 0, 1) := by decide +kernel
theorem d_M_isFound_19 : decode b_M_isFound 19 = .ok (.ireturn, 1) := by decide +kernel
theorem d_M_isFound_20 : decode b_M_isFound 20 = .ok (.iconst 0, 1) := by decide +kernel
theorem d_M_isFound_21 : decode b_M_isFound 21 = .ok (.istore_n 3, 1) := by decide +kernel
theorem d_M_isFound_22 : decode b_M_isFound 22 = .ok (.iload_n 3, 1) := by decide +kernel
theorem d_M_isFound_23 : decode b_M_isFound 23 = .ok (.aload_n 0, 1) := by decide +kernel
theorem d_M_isFound_24 : decode b_M_isFound 24 = .ok (.getfield 102, 3) := by decide +kernel
theorem d_M_isFound_27 : decode b_M_isFound 27 = .ok (.if_icmp .ge 43, 3) := by decide +kernel
theorem d_M_isFound_30 : decode b_M_isFound 30 = .ok (.iload_n 3, 1) := by decide +kernel
theorem d_M_isFound_31 : decode b_M_isFound 31 = .ok (.iload_n 1, 1) := by decide +kernel
theorem d_M_isFound_32 : decode b_M_isFound 32 = .ok (.if_icmp .eq 32, 3) := by decide +kernel
theorem d_M_isFound_35 : decode b_M_isFound 35 = .ok (.aload_n 0, 1) := by decide +kernel
theorem d_M_isFound_36 : decode b_M_isFound 36 = .ok (.getfield 20, 3) := by decide +kernel
theorem d_M_isFound_39 : decode b_M_isFound 39 = .ok (.iload_n 3, 1) := by decide +kernel
theorem d_M_isFound_40 : decode b_M_isFound 40 = .ok (.iaload, 1) := by decide +kernel
theorem d_M_isFound_41 : decode b_M_isFound 41 = .ok (.iload_n 2, 1) := by decide +kernel
theorem d_M_isFound_42 : decode b_M_isFound 42 = .ok (.if_icmp .ne 22, 3) := by decide +kernel
theorem d_M_isFound_45 : decode b_M_isFound 45 = .ok (.aload_n 0, 1) := by decide +kernel
theorem d_M_isFound_46 : decode b_M_isFound 46 = .ok (.iload_n 1, 1) := by decide +kernel
theorem d_M_isFound_47 : decode b_M_isFound 47 = .ok (.iload_n 3, 1) := by decide +kernel
theorem d_M_isFound_48 : decode b_M_isFound 48 = .ok (.invokevirtual 105, 3) := by decide +kernel
theorem d_M_isFound_51 : decode b_M_isFound 51 = .ok (.ifCond .eq 13, 3) := by decide +kernel
theorem d_M_isFound_54 : decode b_M_isFound 54 = .ok (.aload_n 0, 1) := by decide +kernel
theorem d_M_isFound_55 : decode b_M_isFound 55 = .ok (.iload_n 3, 1) := by decide +kernel
theorem d_M_isFound_56 : decode b_M_isFound 56 = .ok (.invokevirtual 115, 3) := by decide +kernel
theorem d_M_isFound_59 : decode b_M_isFound 59 = .ok (.ifCond .eq 5, 3) := by decide +kernel
theorem d_M_isFound_62 : decode b_M_isFound 62 = .ok (.iconst 0, 1) := by decide +kernel
theorem d_M_isFound_63 : decode b_M_isFound 63 = .ok (.ireturn, 1) := by decide +kernel
theorem d_M_isFound_64 : decode b_M_isFound 64 = .ok (.iinc 3 1, 3) := by decide +kernel
theorem d_M_isFound_67 : decode b_M_isFound 67 = .ok (.goto (-45), 3) := by decide +kernel
theorem d_M_isFound_70 : decode b_M_isFound 70 = .ok (.iconst 1, 1) := by decide +kernel
theorem d_M_isFound_71 : decode b_M_isFound 71 = .ok (.ireturn, 1) := by decide +kernel
theorem d_M_get_0 : decode b_M_get 0 = .ok (.iload_n 1, 1) := by decide +kernel
theorem d_M_get_1 : decode b_M_get 1 = .ok (.invokestatic 69, 3) := by decide +kernel
theorem d_M_get_4 : decode b_M_get 4 = .ok (.ifCond .eq 19, 3) := by decide +kernel
theorem d_M_get_7 : decode b_M_get 7 = .ok (.iload_n 2, 1) := by decide +kernel
theorem d_M_get_8 : decode b_M_get 8 = .ok (.invokestatic 84, 3) := by decide +kernel
theorem d_M_get_11 : decode b_M_get 11 = .ok (.ifCond .eq 12, 3) := by decide +kernel
theorem d_M_get_14 : decode b_M_get 14 = .ok (.iload_n 3, 1) := by decide +kernel
theorem d_M_get_15 : decode b_M_get 15 = .ok (.ifCond .lt 8, 3) := by decide +kernel
theorem d_M_get_18 : decode b_M_get 18 = .ok (.iload_n 3, 1) := by decide +kernel
theorem d_M_get_19 : decode b_M_get 19 = .ok (.iconst 3, 1) := by decide +kernel
theorem d_M_get_20 : decode b_M_get 20 = .ok (.if_icmp .le 5, 3) := by decide +kernel
theorem d_M_get_23 : decode b_M_get 23 = .ok (.iconst (-1), 1) := by decide +kernel
theorem d_M_get_24 : decode b_M_get 24 = .ok (.ireturn, 1) := by decide +kernel
theorem d_M_get_25 : decode b_M_get 25 = .ok (.aload_n 0, 1) := by decide +kernel
theorem d_M_get_26 : decode b_M_get 26 = .ok (.getfield 7, 3) := by decide +kernel
theorem d_M_get_29 : decode b_M_get 29 = .ok (.iload_n 1, 1) := by decide +kernel
theorem d_M_get_30 : decode b_M_get 30 = .ok (.baload, 1) := by decide +kernel
theorem d_M_get_31 : decode b_M_get 31 = .ok (.ifCond .eq 6, 3) := by decide +kernel
theorem d_M_get_34 : decode b_M_get 34 = .ok (.bipush (-2), 2) := by decide +kernel
theorem d_M_get_36 : decode b_M_get 36 = .ok (.ireturn, 1) := by decide +kernel
theorem d_M_get_37 : decode b_M_get 37 = .ok (.aload_n 0, 1) := by decide +kernel
theorem d_M_get_38 : decode b_M_get 38 = .ok (.iload_n 1, 1) := by decide +kernel
theorem d_M_get_39 : decode b_M_get 39 = .ok (.iload_n 2, 1) := by decide +kernel
theorem d_M_get_40 : decode b_M_get 40 = .ok (.invokevirtual 98, 3) := by decide +kernel
theorem d_M_get_43 : decode b_M_get 43 = .ok (.aload_n 0, 1) := by decide +kernel
theorem d_M_get_44 : decode b_M_get 44 = .ok (.getfield 91, 3) := by decide +kernel
theorem d_M_get_47 : decode b_M_get 47 = .ok (.aload_n 0, 1) := by decide +kernel
end
section
theorem d_M_get_48 : decode b_M_get 48 = .ok (.getfield 63, 3) := by decide +kernel
theorem d_M_get_51 : decode b_M_get 51 = .ok (.if_icmp .ge 6, 3) := by decide +kernel
theorem d_M_get_54 : decode b_M_get 54 = .ok (.bipush (-3), 2) := by decide +kernel
theorem d_M_get_56 : decode b_M_get 56 = .ok (.ireturn, 1) := by decide +kernel
theorem d_M_get_57 : decode b_M_get 57 = .ok (.aload_n 0, 1) := by decide +kernel
theorem d_M_get_58 : decode b_M_get 58 = .ok (.iconst 0, 1) := by decide +kernel
theorem d_M_get_59 : decode b_M_get 59 = .ok (.putfield 118, 3) := by decide +kernel
theorem d_M_get_62 : decode b_M_get 62 = .ok (.iconst 0, 1) := by decide +kernel
theorem d_M_get_63 : decode b_M_get 63 = .ok (.istore 4, 2) := by decide +kernel
theorem d_M_get_65 : decode b_M_get 65 = .ok (.iload 4, 2) := by decide +kernel
theorem d_M_get_67 : decode b_M_get 67 = .ok (.aload_n 0, 1) := by decide +kernel
theorem d_M_get_68 : decode b_M_get 68 = .ok (.getfield 102, 3) := by decide +kernel
theorem d_M_get_71 : decode b_M_get 71 = .ok (.if_icmp .ge 40, 3) := by decide +kernel
theorem d_M_get_74 : decode b_M_get 74 = .ok (.aload_n 0, 1) := by decide +kernel
theorem d_M_get_75 : decode b_M_get 75 = .ok (.iload 4, 2) := by decide +kernel
theorem d_M_get_77 : decode b_M_get 77 = .ok (.iload_n 2, 1) := by decide +kernel
theorem d_M_get_78 : decode b_M_get 78 = .ok (.invokevirtual 121, 3) := by decide +kernel
theorem d_M_get_81 : decode b_M_get 81 = .ok (.ifCond .eq 24, 3) := by decide +kernel
theorem d_M_get_84 : decode b_M_get 84 = .ok (.aload_n 0, 1) := by decide +kernel
theorem d_M_get_85 : decode b_M_get 85 = .ok (.getfield 50, 3) := by decide +kernel
theorem d_M_get_88 : decode b_M_get 88 = .ok (.aload_n 0, 1) := by decide +kernel
theorem d_M_get_89 : decode b_M_get 89 = .ok (.getfield 118, 3) := by decide +kernel
theorem d_M_get_92 : decode b_M_get 92 = .ok (.iload 4, 2) := by decide +kernel
theorem d_M_get_94 : decode b_M_get 94 = .ok (.iastore, 1) := by decide +kernel
theorem d_M_get_95 : decode b_M_get 95 = .ok (.aload_n 0, 1) := by decide +kernel
theorem d_M_get_96 : decode b_M_get 96 = .ok (.dup, 1) := by decide +kernel
theorem d_M_get_97 : decode b_M_get 97 = .ok (.getfield 118, 3) := by decide +kernel
theorem d_M_get_100 : decode b_M_get 100 = .ok (.iconst 1, 1) := by decide +kernel
theorem d_M_get_101 : decode b_M_get 101 = .ok (.iadd, 1) := by decide +kernel
theorem d_M_get_102 : decode b_M_get 102 = .ok (.putfield 118, 3) := by decide +kernel
theorem d_M_get_105 : decode b_M_get 105 = .ok (.iinc 4 1, 3) := by decide +kernel
theorem d_M_get_108 : decode b_M_get 108 = .ok (.goto (-43), 3) := by decide +kernel
theorem d_M_get_111 : decode b_M_get 111 = .ok (.aload_n 0, 1) := by decide +kernel
theorem d_M_get_112 : decode b_M_get 112 = .ok (.getfield 44, 3) := by decide +kernel
theorem d_M_get_115 : decode b_M_get 115 = .ok (.iload_n 3, 1) := by decide +kernel
theorem d_M_get_116 : decode b_M_get 116 = .ok (.iconst 1, 1) := by decide +kernel
theorem d_M_get_117 : decode b_M_get 117 = .ok (.bastore, 1) := by decide +kernel
theorem d_M_get_118 : decode b_M_get 118 = .ok (.aload_n 0, 1) := by decide +kernel
theorem d_M_get_119 : decode b_M_get 119 = .ok (.getfield 41, 3) := by decide +kernel
theorem d_M_get_122 : decode b_M_get 122 = .ok (.iload_n 3, 1) := by decide +kernel
theorem d_M_get_123 : decode b_M_get 123 = .ok (.iload_n 2, 1) := by decide +kernel
theorem d_M_get_124 : decode b_M_get 124 = .ok (.iastore, 1) := by decide +kernel
theorem d_M_get_125 : decode b_M_get 125 = .ok (.iconst 0, 1) := by decide +kernel
theorem d_M_get_126 : decode b_M_get 126 = .ok (.istore 4, 2) := by decide +kernel
theorem d_M_get_128 : decode b_M_get 128 = .ok (.iload 4, 2) := by decide +kernel
theorem d_M_get_130 : decode b_M_get 130 = .ok (.iconst 5, 1) := by decide +kernel
theorem d_M_get_131 : decode b_M_get 131 = .ok (.if_icmp .ge 78, 3) := by decide +kernel
theorem d_M_get_134 : decode b_M_get 134 = .ok (.iconst 0, 1) := by decide +kernel
theorem d_M_get_135 : decode b_M_get 135 = .ok (.istore 5, 2) := by decide +kernel
theorem d_M_get_137 : decode b_M_get 137 = .ok (.iconst 0, 1) := by decide +kernel
theorem d_M_get_138 : decode b_M_get 138 = .ok (.istore 6, 2) := by decide +kernel
theorem d_M_get_140 : decode b_M_get 140 = .ok (.iload 6, 2) := by decide +kernel
theorem d_M_get_142 : decode b_M_get 142 = .ok (.aload_n 0, 1) := by decide +kernel
theorem d_M_get_143 : decode b_M_get 143 = .ok (.getfield 118, 3) := by decide +kernel
theorem d_M_get_146 : decode b_M_get 146 = .ok (.if_icmp .ge 44, 3) := by decide +kernel
theorem d_M_get_149 : decode b_M_get 149 = .ok (.aload_n 0, 1) := by decide +kernel
theorem d_M_get_150 : decode b_M_get 150 = .ok (.getfield 29, 3) := by decide +kernel
theorem d_M_get_153 : decode b_M_get 153 = .ok (.iconst 5, 1) := by decide +kernel
theorem d_M_get_154 : decode b_M_get 154 = .ok (.aload_n 0, 1) := by decide +kernel
theorem d_M_get_155 : decode b_M_get 155 = .ok (.getfield 50, 3) := by decide +kernel
theorem d_M_get_158 : decode b_M_get 158 = .ok (.iload 6, 2) := by decide +kernel
theorem d_M_get_160 : decode b_M_get 160 = .ok (.iaload, 1) := by decide +kernel
theorem d_M_get_161 : decode b_M_get 161 = .ok (.imul, 1) := by decide +kernel
theorem d_M_get_162 : decode b_M_get 162 = .ok (.iload 4, 2) := by decide +kernel
theorem d_M_get_164 : decode b_M_get 164 = .ok (.iadd, 1) := by decide +kernel
theorem d_M_get_165 : decode b_M_get 165 = .ok (.iaload, 1) := by decide +kernel
theorem d_M_get_166 : decode b_M_get 166 = .ok (.istore 7, 2) := by decide +kernel
theorem d_M_get_168 : decode b_M_get 168 = .ok (.iload 7, 2) := by decide +kernel
theorem d_M_get_170 : decode b_M_get 170 = .ok (.iload 5, 2) := by decide +kernel
theorem d_M_get_172 : decode b_M_get 172 = .ok (.if_icmp .le 8, 3) := by decide +kernel
theorem d_M_get_175 : decode b_M_get 175 = .ok (.iload 7, 2) := by decide +kernel
theorem d_M_get_177 : decode b_M_get 177 = .ok (.goto 5, 3) := by decide +kernel
theorem d_M_get_180 : decode b_M_get 180 = .ok (.iload 5, 2) := by decide +kernel
theorem d_M_get_182 : decode b_M_get 182 = .ok (.istore 5, 2) := by decide +kernel
theorem d_M_get_184 : decode b_M_get 184 = .ok (.iinc 6 1, 3) := by decide +kernel
theorem d_M_get_187 : decode b_M_get 187 = .ok (.goto (-47), 3) := by decide +kernel
theorem d_M_get_190 : decode b_M_get 190 = .ok (.aload_n 0, 1) := by decide +kernel
theorem d_M_get_191 : decode b_M_get 191 = .ok (.getfield 47, 3) := by decide +kernel
theorem d_M_get_194 : decode b_M_get 194 = .ok (.iconst 5, 1) := by decide +kernel
theorem d_M_get_195 : decode b_M_get 195 = .ok (.iload_n 3, 1) := by decide +kernel
theorem d_M_get_196 : decode b_M_get 196 = .ok (.imul, 1) := by decide +kernel
theorem d_M_get_197 : decode b_M_get 197 = .ok (.iload 4, 2) := by decide +kernel
theorem d_M_get_199 : decode b_M_get 199 = .ok (.iadd, 1) := by decide +kernel
theorem d_M_get_200 : decode b_M_get 200 = .ok (.iload 5, 2) := by decide +kernel
theorem d_M_get_202 : decode b_M_get 202 = .ok (.iastore, 1) := by decide +kernel
theorem d_M_get_203 : decode b_M_get 203 = .ok (.iinc 4 1, 3) := by decide +kernel
theorem d_M_get_206 : decode b_M_get 206 = .ok (.goto (-78), 3) := by decide +kernel
theorem d_M_get_209 : decode b_M_get 209 = .ok (.aload_n 0, 1) := by decide +kernel
theorem d_M_get_210 : decode b_M_get 210 = .ok (.invokevirtual 124, 3) := by decide +kernel
theorem d_M_get_213 : decode b_M_get 213 = .ok (.aload_n 0, 1) := by decide +kernel
theorem d_M_get_214 : decode b_M_get 214 = .ok (.getfield 118, 3) := by decide +kernel
theorem d_M_get_217 : decode b_M_get 217 = .ok (.ireturn, 1) := by decide +kernel
theorem d_M_repair_0 : decode b_M_repair 0 = .ok (.aload_n 0, 1) := by decide +kernel
theorem d_M_repair_1 : decode b_M_repair 1 = .ok (.iconst 0, 1) := by decide +kernel
theorem d_M_repair_2 : decode b_M_repair 2 = .ok (.putfield 127, 3) := by decide +kernel
theorem d_M_repair_5 : decode b_M_repair 5 = .ok (.iconst 0, 1) := by decide +kernel
theorem d_M_repair_6 : decode b_M_repair 6 = .ok (.istore_n 1, 1) := by decide +kernel
theorem d_M_repair_7 : decode b_M_repair 7 = .ok (.iload_n 1, 1) := by decide +kernel
theorem d_M_repair_8 : decode b_M_repair 8 = .ok (.aload_n 0, 1) := by decide +kernel
theorem d_M_repair_9 : decode b_M_repair 9 = .ok (.getfield 91, 3) := by decide +kernel
theorem d_M_repair_12 : decode b_M_repair 12 = .ok (.if_icmp .ge 125, 3) := by decide +kernel
theorem d_M_repair_15 : decode b_M_repair 15 = .ok (.aload_n 0, 1) := by decide +kernel
theorem d_M_repair_16 : decode b_M_repair 16 = .ok (.aload_n 0, 1) := by decide +kernel
theorem d_M_repair_17 : decode b_M_repair 17 = .ok (.getfield 56, 3) := by decide +kernel
theorem d_M_repair_20 : decode b_M_repair 20 = .ok (.iload_n 1, 1) := by decide +kernel
theorem d_M_repair_21 : decode b_M_repair 21 = .ok (.iaload, 1) := by decide +kernel
theorem d_M_repair_22 : decode b_M_repair 22 = .ok (.invokevirtual 76, 3) := by decide +kernel
theorem d_M_repair_25 : decode b_M_repair 25 = .ok (.aload_n 0, 1) := by decide +kernel
theorem d_M_repair_26 : decode b_M_repair 26 = .ok (.getfield 59, 3) := by decide +kernel
theorem d_M_repair_29 : decode b_M_repair 29 = .ok (.if_icmp .ge 102, 3) := by decide +kernel
theorem d_M_repair_32 : decode b_M_repair 32 = .ok (.iconst 0, 1) := by decide +kernel
theorem d_M_repair_33 : decode b_M_repair 33 = .ok (.istore_n 2, 1) := by decide +kernel
theorem d_M_repair_34 : decode b_M_repair 34 = .ok (.iload_n 2, 1) := by decide +kernel
theorem d_M_repair_35 : decode b_M_repair 35 = .ok (.aload_n 0, 1) := by decide +kernel
theorem d_M_repair_36 : decode b_M_repair 36 = .ok (.getfield 118, 3) := by decide +kernel
theorem d_M_repair_39 : decode b_M_repair 39 = .ok (.if_icmp .ge 92, 3) := by decide +kernel
theorem d_M_repair_42 : decode b_M_repair 42 = .ok (.aload_n 0, 1) := by decide +kernel
theorem d_M_repair_43 : decode b_M_repair 43 = .ok (.getfield 32, 3) := by decide +kernel
theorem d_M_repair_46 : decode b_M_repair 46 = .ok (.bipush 40, 2) := by decide +kernel
theorem d_M_repair_48 : decode b_M_repair 48 = .ok (.aload_n 0, 1) := by decide +kernel
theorem d_M_repair_49 : decode b_M_repair 49 = .ok (.getfield 56, 3) := by decide +kernel
theorem d_M_repair_52 : decode b_M_repair 52 = .ok (.iload_n 1, 1) := by decide +kernel
theorem d_M_repair_53 : decode b_M_repair 53 = .ok (.iaload, 1) := by decide +kernel
theorem d_M_repair_54 : decode b_M_repair 54 = .ok (.imul, 1) := by decide +kernel
theorem d_M_repair_55 : decode b_M_repair 55 = .ok (.aload_n 0, 1) := by decide +kernel
theorem d_M_repair_56 : decode b_M_repair 56 = .ok (.getfield 50, 3) := by decide +kernel
theorem d_M_repair_59 : decode b_M_repair 59 = .ok (.iload_n 2, 1) := by decide +kernel
theorem d_M_repair_60 : decode b_M_repair 60 = .ok (.iaload, 1) := by decide +kernel
theorem d_M_repair_61 : decode b_M_repair 61 = .ok (.iadd, 1) := by decide +kernel
theorem d_M_repair_62 : decode b_M_repair 62 = .ok (.baload, 1) := by decide +kernel
theorem d_M_repair_63 : decode b_M_repair 63 = .ok (.istore_n 3, 1) := by decide +kernel
theorem d_M_repair_64 : decode b_M_repair 64 = .ok (.aload_n 0, 1) := by decide +kernel
theorem d_M_repair_65 : decode b_M_repair 65 = .ok (.aload_n 0, 1) := by decide +kernel
theorem d_M_repair_66 : decode b_M_repair 66 = .ok (.getfield 56, 3) := by decide +kernel
theorem d_M_repair_69 : decode b_M_repair 69 = .ok (.iload_n 1, 1) := by decide +kernel
theorem d_M_repair_70 : decode b_M_repair 70 = .ok (.iaload, 1) := by decide +kernel
theorem d_M_repair_71 : decode b_M_repair 71 = .ok (.aload_n 0, 1) := by decide +kernel
theorem d_M_repair_72 : decode b_M_repair 72 = .ok (.getfield 50, 3) := by decide +kernel
theorem d_M_repair_75 : decode b_M_repair 75 = .ok (.iload_n 2, 1) := by decide +kernel
theorem d_M_repair_76 : decode b_M_repair 76 = .ok (.iaload, 1) := by decide +kernel
theorem d_M_repair_77 : decode b_M_repair 77 = .ok (.invokevirtual 112, 3) := by decide +kernel
theorem d_M_repair_80 : decode b_M_repair 80 = .ok (.aload_n 0, 1) := by decide +kernel
theorem d_M_repair_81 : decode b_M_repair 81 = .ok (.iload_n 3, 1) := by decide +kernel
theorem d_M_repair_82 : decode b_M_repair 82 = .ok (.ifCond .ne 36, 3) := by decide +kernel
theorem d_M_repair_85 : decode b_M_repair 85 = .ok (.aload_n 0, 1) := by decide +kernel
theorem d_M_repair_86 : decode b_M_repair 86 = .ok (.getfield 32, 3) := by decide +kernel
theorem d_M_repair_89 : decode b_M_repair 89 = .ok (.bipush 40, 2) := by decide +kernel
theorem d_M_repair_91 : decode b_M_repair 91 = .ok (.aload_n 0, 1) := by decide +kernel
theorem d_M_repair_92 : decode b_M_repair 92 = .ok (.getfield 56, 3) := by decide +kernel
theorem d_M_repair_95 : decode b_M_repair 95 = .ok (.iload_n 1, 1) := by decide +kernel
theorem d_M_repair_96 : decode b_M_repair 96 = .ok (.iaload, 1) := by decide +kernel
theorem d_M_repair_97 : decode b_M_repair 97 = .ok (.imul, 1) := by decide +kernel
theorem d_M_repair_98 : decode b_M_repair 98 = .ok (.aload_n 0, 1) := by decide +kernel
theorem d_M_repair_99 : decode b_M_repair 99 = .ok (.getfield 50, 3) := by decide +kernel
theorem d_M_repair_102 : decode b_M_repair 102 = .ok (.iload_n 2, 1) := by decide +kernel
theorem d_M_repair_103 : decode b_M_repair 103 = .ok (.iaload, 1) := by decide +kernel
theorem d_M_repair_104 : decode b_M_repair 104 = .ok (.iadd, 1) := by decide +kernel
theorem d_M_repair_105 : decode b_M_repair 105 = .ok (.baload, 1) := by decide +kernel
theorem d_M_repair_106 : decode b_M_repair 106 = .ok (.ifCond .eq 12, 3) := by decide +kernel
theorem d_M_repair_109 : decode b_M_repair 109 = .ok (.aload_n 0, 1) := by decide +kernel
theorem d_M_repair_110 : decode b_M_repair 110 = .ok (.getfield 127, 3) := by decide +kernel
theorem d_M_repair_113 : decode b_M_repair 113 = .ok (.iconst 1, 1) := by decide +kernel
theorem d_M_repair_114 : decode b_M_repair 114 = .ok (.iadd, 1) := by decide +kernel
theorem d_M_repair_115 : decode b_M_repair 115 = .ok (.goto 7, 3) := by decide +kernel
theorem d_M_repair_118 : decode b_M_repair 118 = .ok (.aload_n 0, 1) := by decide +kernel
theorem d_M_repair_119 : decode b_M_repair 119 = .ok (.getfield 127, 3) := by decide +kernel
theorem d_M_repair_122 : decode b_M_repair 122 = .ok (.putfield 127, 3) := by decide +kernel
theorem d_M_repair_125 : decode b_M_repair 125 = .ok (.iinc 2 1, 3) := by decide +kernel
theorem d_M_repair_128 : decode b_M_repair 128 = .ok (.goto (-94), 3) := by decide +kernel
theorem d_M_repair_131 : decode b_M_repair 131 = .ok (.iinc 1 1, 3) := by decide +kernel
theorem d_M_repair_134 : decode b_M_repair 134 = .ok (.goto (-127), 3) := by decide +kernel
theorem d_M_repair_137 : decode b_M_repair 137 = .ok (.return_, 1) := by decide +kernel
theorem d_M_found_0 : decode b_M_found 0 = .ok (.iload_n 1, 1) := by decide +kernel
theorem d_M_found_1 : decode b_M_found 1 = .ok (.ifCond .lt 20, 3) := by decide +kernel
theorem d_M_found_4 : decode b_M_found 4 = .ok (.iload_n 1, 1) := by decide +kernel
theorem d_M_found_5 : decode b_M_found 5 = .ok (.aload_n 0, 1) := by decide +kernel
theorem d_M_found_6 : decode b_M_found 6 = .ok (.getfield 118, 3) := by decide +kernel
theorem d_M_found_9 : decode b_M_found 9 = .ok (.if_icmp .ge 12, 3) := by decide +kernel
theorem d_M_found_12 : decode b_M_found 12 = .ok (.aload_n 0, 1) := by decide +kernel
theorem d_M_found_13 : decode b_M_found 13 = .ok (.getfield 50, 3) := by decide +kernel
theorem d_M_found_16 : decode b_M_found 16 = .ok (.iload_n 1, 1) := by decide +kernel
theorem d_M_found_17 : decode b_M_found 17 = .ok (.iaload, 1) := by decide +kernel
theorem d_M_found_18 : decode b_M_found 18 = .ok (.goto 4, 3) := by decide +kernel
theorem d_M_found_21 : decode b_M_found 21 = .ok (.iconst (-1), 1) := by decide +kernel
theorem d_M_found_22 : decode b_M_found 22 = .ok (.ireturn, 1) := by decide +kernel
theorem d_M_repaired_0 : decode b_M_repaired 0 = .ok (.aload_n 0, 1) := by decide +kernel
theorem d_M_repaired_1 : decode b_M_repaired 1 = .ok (.getfield 127, 3) := by decide +kernel
theorem d_M_repaired_4 : decode b_M_repaired 4 = .ok (.ireturn, 1) := by decide +kernel
theorem d_M_handOver_0 : decode b_M_handOver 0 = .ok (.iload_n 1, 1) := by decide +kernel
theorem d_M_handOver_1 : decode b_M_handOver 1 = .ok (.invokestatic 69, 3) := by decide +kernel
theorem d_M_handOver_4 : decode b_M_handOver 4 = .ok (.ifCond .ne 5, 3) := by decide +kernel
theorem d_M_handOver_7 : decode b_M_handOver 7 = .ok (.iconst (-1), 1) := by decide +kernel
theorem d_M_handOver_8 : decode b_M_handOver 8 = .ok (.ireturn, 1) := by decide +kernel
theorem d_M_handOver_9 : decode b_M_handOver 9 = .ok (.aload_n 0, 1) := by decide +kernel
theorem d_M_handOver_10 : decode b_M_handOver 10 = .ok (.getfield 7, 3) := by decide +kernel
theorem d_M_handOver_13 : decode b_M_handOver 13 = .ok (.iload_n 1, 1) := by decide +kernel
theorem d_M_handOver_14 : decode b_M_handOver 14 = .ok (.baload, 1) := by decide +kernel
theorem d_M_handOver_15 : decode b_M_handOver 15 = .ok (.ifCond .eq 6, 3) := by decide +kernel
theorem d_M_handOver_18 : decode b_M_handOver 18 = .ok (.bipush (-2), 2) := by decide +kernel
theorem d_M_handOver_20 : decode b_M_handOver 20 = .ok (.ireturn, 1) := by decide +kernel
theorem d_M_handOver_21 : decode b_M_handOver 21 = .ok (.iconst 0, 1) := by decide +kernel
theorem d_M_handOver_22 : decode b_M_handOver 22 = .ok (.istore_n 2, 1) := by decide +kernel
theorem d_M_handOver_23 : decode b_M_handOver 23 = .ok (.iconst 0, 1) := by decide +kernel
theorem d_M_handOver_24 : decode b_M_handOver 24 = .ok (.istore_n 3, 1) := by decide +kernel
theorem d_M_handOver_25 : decode b_M_handOver 25 = .ok (.iload_n 3, 1) := by decide +kernel
theorem d_M_handOver_26 : decode b_M_handOver 26 = .ok (.aload_n 0, 1) := by decide +kernel
theorem d_M_handOver_27 : decode b_M_handOver 27 = .ok (.getfield 102, 3) := by decide +kernel
theorem d_M_handOver_30 : decode b_M_handOver 30 = .ok (.if_icmp .ge 61, 3) := by decide +kernel
theorem d_M_handOver_33 : decode b_M_handOver 33 = .ok (.aload_n 0, 1) := by decide +kernel
theorem d_M_handOver_34 : decode b_M_handOver 34 = .ok (.getfield 35, 3) := by decide +kernel
theorem d_M_handOver_37 : decode b_M_handOver 37 = .ok (.bipush 40, 2) := by decide +kernel
theorem d_M_handOver_39 : decode b_M_handOver 39 = .ok (.iload_n 1, 1) := by decide +kernel
theorem d_M_handOver_40 : decode b_M_handOver 40 = .ok (.imul, 1) := by decide +kernel
theorem d_M_handOver_41 : decode b_M_handOver 41 = .ok (.iload_n 3, 1) := by decide +kernel
theorem d_M_handOver_42 : decode b_M_handOver 42 = .ok (.iadd, 1) := by decide +kernel
theorem d_M_handOver_43 : decode b_M_handOver 43 = .ok (.iaload, 1) := by decide +kernel
theorem d_M_handOver_44 : decode b_M_handOver 44 = .ok (.iconst 1, 1) := by decide +kernel
theorem d_M_handOver_45 : decode b_M_handOver 45 = .ok (.isub, 1) := by decide +kernel
theorem d_M_handOver_46 : decode b_M_handOver 46 = .ok (.istore 4, 2) := by decide +kernel
theorem d_M_handOver_48 : decode b_M_handOver 48 = .ok (.iload 4, 2) := by decide +kernel
theorem d_M_handOver_50 : decode b_M_handOver 50 = .ok (.ifCond .lt 35, 3) := by decide +kernel
theorem d_M_handOver_53 : decode b_M_handOver 53 = .ok (.aload_n 0, 1) := by decide +kernel
theorem d_M_handOver_54 : decode b_M_handOver 54 = .ok (.iload_n 1, 1) := by decide +kernel
theorem d_M_handOver_55 : decode b_M_handOver 55 = .ok (.iload 4, 2) := by decide +kernel
theorem d_M_handOver_57 : decode b_M_handOver 57 = .ok (.invokevirtual 94, 3) := by decide +kernel
theorem d_M_handOver_60 : decode b_M_handOver 60 = .ok (.ifCond .eq 25, 3) := by decide +kernel
theorem d_M_handOver_63 : decode b_M_handOver 63 = .ok (.aload_n 0, 1) := by decide +kernel
theorem d_M_handOver_64 : decode b_M_handOver 64 = .ok (.iload 4, 2) := by decide +kernel
theorem d_M_handOver_66 : decode b_M_handOver 66 = .ok (.iload_n 3, 1) := by decide +kernel
theorem d_M_handOver_67 : decode b_M_handOver 67 = .ok (.invokevirtual 112, 3) := by decide +kernel
theorem d_M_handOver_70 : decode b_M_handOver 70 = .ok (.aload_n 0, 1) := by decide +kernel
theorem d_M_handOver_71 : decode b_M_handOver 71 = .ok (.getfield 35, 3) := by decide +kernel
theorem d_M_handOver_74 : decode b_M_handOver 74 = .ok (.bipush 40, 2) := by decide +kernel
theorem d_M_handOver_76 : decode b_M_handOver 76 = .ok (.iload_n 1, 1) := by decide +kernel
theorem d_M_handOver_77 : decode b_M_handOver 77 = .ok (.imul, 1) := by decide +kernel
theorem d_M_handOver_78 : decode b_M_handOver 78 = .ok (.iload_n 3, 1) := by decide +kernel
theorem d_M_handOver_79 : decode b_M_handOver 79 = .ok (.iadd, 1) := by decide +kernel
theorem d_M_handOver_80 : decode b_M_handOver 80 = .ok (.iconst 0, 1) := by decide +kernel
theorem d_M_handOver_81 : decode b_M_handOver 81 = .ok (.iastore, 1) := by decide +kernel
theorem d_M_handOver_82 : decode b_M_handOver 82 = .ok (.iinc 2 1, 3) := by decide +kernel
theorem d_M_handOver_85 : decode b_M_handOver 85 = .ok (.iinc 3 1, 3) := by decide +kernel
theorem d_M_handOver_88 : decode b_M_handOver 88 = .ok (.goto (-63), 3) := by decide +kernel
theorem d_M_handOver_91 : decode b_M_handOver 91 = .ok (.iconst 0, 1) := by decide +kernel
theorem d_M_handOver_92 : decode b_M_handOver 92 = .ok (.istore_n 3, 1) := by decide +kernel
theorem d_M_handOver_93 : decode b_M_handOver 93 = .ok (.iload_n 3, 1) := by decide +kernel
theorem d_M_handOver_94 : decode b_M_handOver 94 = .ok (.bipush 32, 2) := by decide +kernel
theorem d_M_handOver_96 : decode b_M_handOver 96 = .ok (.if_icmp .ge 18, 3) := by decide +kernel
theorem d_M_handOver_99 : decode b_M_handOver 99 = .ok (.iload_n 2, 1) := by decide +kernel
theorem d_M_handOver_100 : decode b_M_handOver 100 = .ok (.aload_n 0, 1) := by decide +kernel
theorem d_M_handOver_101 : decode b_M_handOver 101 = .ok (.iload_n 1, 1) := by decide +kernel
theorem d_M_handOver_102 : decode b_M_handOver 102 = .ok (.iload_n 3, 1) := by decide +kernel
theorem d_M_handOver_103 : decode b_M_handOver 103 = .ok (.invokevirtual 130, 3) := by decide +kernel
theorem d_M_handOver_106 : decode b_M_handOver 106 = .ok (.iadd, 1) := by decide +kernel
theorem d_M_handOver_107 : decode b_M_handOver 107 = .ok (.istore_n 2, 1) := by decide +kernel
theorem d_M_handOver_108 : decode b_M_handOver 108 = .ok (.iinc 3 1, 3) := by decide +kernel
theorem d_M_handOver_111 : decode b_M_handOver 111 = .ok (.goto (-18), 3) := by decide +kernel
theorem d_M_handOver_114 : decode b_M_handOver 114 = .ok (.iload_n 2, 1) := by decide +kernel
theorem d_M_handOver_115 : decode b_M_handOver 115 = .ok (.ireturn, 1) := by decide +kernel
theorem d_M_moved_0 : decode b_M_moved 0 = .ok (.aload_n 0, 1) := by decide +kernel
theorem d_M_moved_1 : decode b_M_moved 1 = .ok (.iload_n 1, 1) := by decide +kernel
theorem d_M_moved_2 : decode b_M_moved 2 = .ok (.iload_n 2, 1) := by decide +kernel
theorem d_M_moved_3 : decode b_M_moved 3 = .ok (.invokevirtual 133, 3) := by decide +kernel
theorem d_M_moved_6 : decode b_M_moved 6 = .ok (.ifCond .eq 19, 3) := by decide +kernel
theorem d_M_moved_9 : decode b_M_moved 9 = .ok (.aload_n 0, 1) := by decide +kernel
theorem d_M_moved_10 : decode b_M_moved 10 = .ok (.iload_n 1, 1) := by decide +kernel
theorem d_M_moved_11 : decode b_M_moved 11 = .ok (.iload_n 2, 1) := by decide +kernel
theorem d_M_moved_12 : decode b_M_moved 12 = .ok (.invokevirtual 136, 3) := by decide +kernel
theorem d_M_moved_15 : decode b_M_moved 15 = .ok (.ifCond .ne 10, 3) := by decide +kernel
theorem d_M_moved_18 : decode b_M_moved 18 = .ok (.aload_n 0, 1) := by decide +kernel
theorem d_M_moved_19 : decode b_M_moved 19 = .ok (.invokevirtual 87, 3) := by decide +kernel
theorem d_M_moved_22 : decode b_M_moved 22 = .ok (.ifCond .ne 5, 3) := by decide +kernel
theorem d_M_moved_25 : decode b_M_moved 25 = .ok (.iconst 0, 1) := by decide +kernel
theorem d_M_moved_26 : decode b_M_moved 26 = .ok (.ireturn, 1) := by decide +kernel
theorem d_M_moved_27 : decode b_M_moved 27 = .ok (.iconst 0, 1) := by decide +kernel
theorem d_M_moved_28 : decode b_M_moved 28 = .ok (.istore_n 3, 1) := by decide +kernel
theorem d_M_moved_29 : decode b_M_moved 29 = .ok (.iload_n 3, 1) := by decide +kernel
theorem d_M_moved_30 : decode b_M_moved 30 = .ok (.aload_n 0, 1) := by decide +kernel
theorem d_M_moved_31 : decode b_M_moved 31 = .ok (.invokevirtual 87, 3) := by decide +kernel
theorem d_M_moved_34 : decode b_M_moved 34 = .ok (.if_icmp .ge 25, 3) := by decide +kernel
theorem d_M_moved_37 : decode b_M_moved 37 = .ok (.aload_n 0, 1) := by decide +kernel
theorem d_M_moved_38 : decode b_M_moved 38 = .ok (.iload_n 1, 1) := by decide +kernel
theorem d_M_moved_39 : decode b_M_moved 39 = .ok (.aload_n 0, 1) := by decide +kernel
theorem d_M_moved_40 : decode b_M_moved 40 = .ok (.getfield 53, 3) := by decide +kernel
theorem d_M_moved_43 : decode b_M_moved 43 = .ok (.iload_n 3, 1) := by decide +kernel
theorem d_M_moved_44 : decode b_M_moved 44 = .ok (.iaload, 1) := by decide +kernel
theorem d_M_moved_45 : decode b_M_moved 45 = .ok (.invokevirtual 94, 3) := by decide +kernel
theorem d_M_moved_48 : decode b_M_moved 48 = .ok (.ifCond .ne 5, 3) := by decide +kernel
theorem d_M_moved_51 : decode b_M_moved 51 = .ok (.iconst 0, 1) := by decide +kernel
theorem d_M_moved_52 : decode b_M_moved 52 = .ok (.ireturn, 1) := by decide +kernel
theorem d_M_moved_53 : decode b_M_moved 53 = .ok (.iinc 3 1, 3) := by decide +kernel
theorem d_M_moved_56 : decode b_M_moved 56 = .ok (.goto (-27), 3) := by decide +kernel
theorem d_M_moved_59 : decode b_M_moved 59 = .ok (.iconst 0, 1) := by decide +kernel
theorem d_M_moved_60 : decode b_M_moved 60 = .ok (.istore_n 3, 1) := by decide +kernel
theorem d_M_moved_61 : decode b_M_moved 61 = .ok (.iconst 0, 1) := by decide +kernel
theorem d_M_moved_62 : decode b_M_moved 62 = .ok (.istore 4, 2) := by decide +kernel
theorem d_M_moved_64 : decode b_M_moved 64 = .ok (.iload 4, 2) := by decide +kernel
theorem d_M_moved_66 : decode b_M_moved 66 = .ok (.aload_n 0, 1) := by decide +kernel
theorem d_M_moved_67 : decode b_M_moved 67 = .ok (.getfield 102, 3) := by decide +kernel
theorem d_M_moved_70 : decode b_M_moved 70 = .ok (.if_icmp .ge 82, 3) := by decide +kernel
theorem d_M_moved_73 : decode b_M_moved 73 = .ok (.aload_n 0, 1) := by decide +kernel
theorem d_M_moved_74 : decode b_M_moved 74 = .ok (.getfield 32, 3) := by decide +kernel
theorem d_M_moved_77 : decode b_M_moved 77 = .ok (.bipush 40, 2) := by decide +kernel
theorem d_M_moved_79 : decode b_M_moved 79 = .ok (.iload_n 1, 1) := by decide +kernel
theorem d_M_moved_80 : decode b_M_moved 80 = .ok (.imul, 1) := by decide +kernel
theorem d_M_moved_81 : decode b_M_moved 81 = .ok (.iload 4, 2) := by decide +kernel
theorem d_M_moved_83 : decode b_M_moved 83 = .ok (.iadd, 1) := by decide +kernel
theorem d_M_moved_84 : decode b_M_moved 84 = .ok (.baload, 1) := by decide +kernel
theorem d_M_moved_85 : decode b_M_moved 85 = .ok (.ifCond .eq 61, 3) := by decide +kernel
theorem d_M_moved_88 : decode b_M_moved 88 = .ok (.aload_n 0, 1) := by decide +kernel
theorem d_M_moved_89 : decode b_M_moved 89 = .ok (.getfield 20, 3) := by decide +kernel
theorem d_M_moved_92 : decode b_M_moved 92 = .ok (.iload 4, 2) := by decide +kernel
theorem d_M_moved_94 : decode b_M_moved 94 = .ok (.iaload, 1) := by decide +kernel
theorem d_M_moved_95 : decode b_M_moved 95 = .ok (.iload_n 2, 1) := by decide +kernel
theorem d_M_moved_96 : decode b_M_moved 96 = .ok (.if_icmp .ne 50, 3) := by decide +kernel
theorem d_M_moved_99 : decode b_M_moved 99 = .ok (.iconst 0, 1) := by decide +kernel
theorem d_M_moved_100 : decode b_M_moved 100 = .ok (.istore 5, 2) := by decide +kernel
theorem d_M_moved_102 : decode b_M_moved 102 = .ok (.iload 5, 2) := by decide +kernel
theorem d_M_moved_104 : decode b_M_moved 104 = .ok (.aload_n 0, 1) := by decide +kernel
theorem d_M_moved_105 : decode b_M_moved 105 = .ok (.invokevirtual 87, 3) := by decide +kernel
theorem d_M_moved_108 : decode b_M_moved 108 = .ok (.if_icmp .ge 22, 3) := by decide +kernel
theorem d_M_moved_111 : decode b_M_moved 111 = .ok (.aload_n 0, 1) := by decide +kernel
theorem d_M_moved_112 : decode b_M_moved 112 = .ok (.aload_n 0, 1) := by decide +kernel
theorem d_M_moved_113 : decode b_M_moved 113 = .ok (.getfield 53, 3) := by decide +kernel
theorem d_M_moved_116 : decode b_M_moved 116 = .ok (.iload 5, 2) := by decide +kernel
theorem d_M_moved_118 : decode b_M_moved 118 = .ok (.iaload, 1) := by decide +kernel
theorem d_M_moved_119 : decode b_M_moved 119 = .ok (.iload 4, 2) := by decide +kernel
theorem d_M_moved_121 : decode b_M_moved 121 = .ok (.invokevirtual 112, 3) := by decide +kernel
theorem d_M_moved_124 : decode b_M_moved 124 = .ok (.iinc 5 1, 3) := by decide +kernel
theorem d_M_moved_127 : decode b_M_moved 127 = .ok (.goto (-25), 3) := by decide +kernel
theorem d_M_moved_130 : decode b_M_moved 130 = .ok (.aload_n 0, 1) := by decide +kernel
theorem d_M_moved_131 : decode b_M_moved 131 = .ok (.getfield 32, 3) := by decide +kernel
theorem d_M_moved_134 : decode b_M_moved 134 = .ok (.bipush 40, 2) := by decide +kernel
theorem d_M_moved_136 : decode b_M_moved 136 = .ok (.iload_n 1, 1) := by decide +kernel
theorem d_M_moved_137 : decode b_M_moved 137 = .ok (.imul, 1) := by decide +kernel
theorem d_M_moved_138 : decode b_M_moved 138 = .ok (.iload 4, 2) := by decide +kernel
theorem d_M_moved_140 : decode b_M_moved 140 = .ok (.iadd, 1) := by decide +kernel
theorem d_M_moved_141 : decode b_M_moved 141 = .ok (.iconst 0, 1) := by decide +kernel
theorem d_M_moved_142 : decode b_M_moved 142 = .ok (.bastore, 1) := by decide +kernel
theorem d_M_moved_143 : decode b_M_moved 143 = .ok (.iinc 3 1, 3) := by decide +kernel
theorem d_M_moved_146 : decode b_M_moved 146 = .ok (.iinc 4 1, 3) := by decide +kernel
theorem d_M_moved_149 : decode b_M_moved 149 = .ok (.goto (-85), 3) := by decide +kernel
theorem d_M_moved_152 : decode b_M_moved 152 = .ok (.iload_n 3, 1) := by decide +kernel
theorem d_M_moved_153 : decode b_M_moved 153 = .ok (.ireturn, 1) := by decide +kernel
theorem d_M_differ_0 : decode b_M_differ 0 = .ok (.aload_n 0, 1) := by decide +kernel
theorem d_M_differ_1 : decode b_M_differ 1 = .ok (.iload_n 1, 1) := by decide +kernel
theorem d_M_differ_2 : decode b_M_differ 2 = .ok (.iload_n 3, 1) := by decide +kernel
theorem d_M_differ_3 : decode b_M_differ 3 = .ok (.invokevirtual 136, 3) := by decide +kernel
theorem d_M_differ_6 : decode b_M_differ 6 = .ok (.ifCond .eq 12, 3) := by decide +kernel
theorem d_M_differ_9 : decode b_M_differ 9 = .ok (.aload_n 0, 1) := by decide +kernel
theorem d_M_differ_10 : decode b_M_differ 10 = .ok (.iload_n 2, 1) := by decide +kernel
theorem d_M_differ_11 : decode b_M_differ 11 = .ok (.iload_n 3, 1) := by decide +kernel
theorem d_M_differ_12 : decode b_M_differ 12 = .ok (.invokevirtual 136, 3) := by decide +kernel
theorem d_M_differ_15 : decode b_M_differ 15 = .ok (.ifCond .ne 5, 3) := by decide +kernel
theorem d_M_differ_18 : decode b_M_differ 18 = .ok (.iconst 0, 1) := by decide +kernel
theorem d_M_differ_19 : decode b_M_differ 19 = .ok (.ireturn, 1) := by decide +kernel
theorem d_M_differ_20 : decode b_M_differ 20 = .ok (.iconst 0, 1) := by decide +kernel
theorem d_M_differ_21 : decode b_M_differ 21 = .ok (.istore 4, 2) := by decide +kernel
theorem d_M_differ_23 : decode b_M_differ 23 = .ok (.iconst 0, 1) := by decide +kernel
theorem d_M_differ_24 : decode b_M_differ 24 = .ok (.istore 5, 2) := by decide +kernel
theorem d_M_differ_26 : decode b_M_differ 26 = .ok (.iload 5, 2) := by decide +kernel
theorem d_M_differ_28 : decode b_M_differ 28 = .ok (.aload_n 0, 1) := by decide +kernel
theorem d_M_differ_29 : decode b_M_differ 29 = .ok (.getfield 102, 3) := by decide +kernel
theorem d_M_differ_32 : decode b_M_differ 32 = .ok (.if_icmp .ge 59, 3) := by decide +kernel
theorem d_M_differ_35 : decode b_M_differ 35 = .ok (.iload 4, 2) := by decide +kernel
theorem d_M_differ_37 : decode b_M_differ 37 = .ok (.ifCond .ne 41, 3) := by decide +kernel
theorem d_M_differ_40 : decode b_M_differ 40 = .ok (.aload_n 0, 1) := by decide +kernel
theorem d_M_differ_41 : decode b_M_differ 41 = .ok (.getfield 20, 3) := by decide +kernel
theorem d_M_differ_44 : decode b_M_differ 44 = .ok (.iload 5, 2) := by decide +kernel
theorem d_M_differ_46 : decode b_M_differ 46 = .ok (.iaload, 1) := by decide +kernel
theorem d_M_differ_47 : decode b_M_differ 47 = .ok (.iload_n 3, 1) := by decide +kernel
theorem d_M_differ_48 : decode b_M_differ 48 = .ok (.if_icmp .ne 34, 3) := by decide +kernel
theorem d_M_differ_51 : decode b_M_differ 51 = .ok (.aload_n 0, 1) := by decide +kernel
theorem d_M_differ_52 : decode b_M_differ 52 = .ok (.getfield 32, 3) := by decide +kernel
theorem d_M_differ_55 : decode b_M_differ 55 = .ok (.bipush 40, 2) := by decide +kernel
theorem d_M_differ_57 : decode b_M_differ 57 = .ok (.iload_n 1, 1) := by decide +kernel
theorem d_M_differ_58 : decode b_M_differ 58 = .ok (.imul, 1) := by decide +kernel
theorem d_M_differ_59 : decode b_M_differ 59 = .ok (.iload 5, 2) := by decide +kernel
theorem d_M_differ_61 : decode b_M_differ 61 = .ok (.iadd, 1) := by decide +kernel
theorem d_M_differ_62 : decode b_M_differ 62 = .ok (.baload, 1) := by decide +kernel
theorem d_M_differ_63 : decode b_M_differ 63 = .ok (.aload_n 0, 1) := by decide +kernel
theorem d_M_differ_64 : decode b_M_differ 64 = .ok (.getfield 32, 3) := by decide +kernel
theorem d_M_differ_67 : decode b_M_differ 67 = .ok (.bipush 40, 2) := by decide +kernel
theorem d_M_differ_69 : decode b_M_differ 69 = .ok (.iload_n 2, 1) := by decide +kernel
theorem d_M_differ_70 : decode b_M_differ 70 = .ok (.imul, 1) := by decide +kernel
theorem d_M_differ_71 : decode b_M_differ 71 = .ok (.iload 5, 2) := by decide +kernel
theorem d_M_differ_73 : decode b_M_differ 73 = .ok (.iadd, 1) := by decide +kernel
theorem d_M_differ_74 : decode b_M_differ 74 = .ok (.baload, 1) := by decide +kernel
theorem d_M_differ_75 : decode b_M_differ 75 = .ok (.if_icmp .eq 7, 3) := by decide +kernel
theorem d_M_differ_78 : decode b_M_differ 78 = .ok (.iconst 1, 1) := by decide +kernel
theorem d_M_differ_79 : decode b_M_differ 79 = .ok (.goto 4, 3) := by decide +kernel
theorem d_M_differ_82 : decode b_M_differ 82 = .ok (.iconst 0, 1) := by decide +kernel
theorem d_M_differ_83 : decode b_M_differ 83 = .ok (.istore 4, 2) := by decide +kernel
theorem d_M_differ_85 : decode b_M_differ 85 = .ok (.iinc 5 1, 3) := by decide +kernel
theorem d_M_differ_88 : decode b_M_differ 88 = .ok (.goto (-62), 3) := by decide +kernel
theorem d_M_differ_91 : decode b_M_differ 91 = .ok (.iload 4, 2) := by decide +kernel
theorem d_M_differ_93 : decode b_M_differ 93 = .ok (.ireturn, 1) := by decide +kernel
theorem d_M_exchange_0 : decode b_M_exchange 0 = .ok (.iconst 0, 1) := by decide +kernel
theorem d_M_exchange_1 : decode b_M_exchange 1 = .ok (.istore 4, 2) := by decide +kernel
theorem d_M_exchange_3 : decode b_M_exchange 3 = .ok (.iload 4, 2) := by decide +kernel
theorem d_M_exchange_5 : decode b_M_exchange 5 = .ok (.aload_n 0, 1) := by decide +kernel
theorem d_M_exchange_6 : decode b_M_exchange 6 = .ok (.getfield 102, 3) := by decide +kernel
theorem d_M_exchange_9 : decode b_M_exchange 9 = .ok (.if_icmp .ge 88, 3) := by decide +kernel
theorem d_M_exchange_12 : decode b_M_exchange 12 = .ok (.aload_n 0, 1) := by decide +kernel
theorem d_M_exchange_13 : decode b_M_exchange 13 = .ok (.getfield 38, 3) := by decide +kernel
theorem d_M_exchange_16 : decode b_M_exchange 16 = .ok (.iload 4, 2) := by decide +kernel
theorem d_M_exchange_18 : decode b_M_exchange 18 = .ok (.aload_n 0, 1) := by decide +kernel
theorem d_M_exchange_19 : decode b_M_exchange 19 = .ok (.getfield 32, 3) := by decide +kernel
theorem d_M_exchange_22 : decode b_M_exchange 22 = .ok (.bipush 40, 2) := by decide +kernel
theorem d_M_exchange_24 : decode b_M_exchange 24 = .ok (.iload_n 1, 1) := by decide +kernel
theorem d_M_exchange_25 : decode b_M_exchange 25 = .ok (.imul, 1) := by decide +kernel
theorem d_M_exchange_26 : decode b_M_exchange 26 = .ok (.iload 4, 2) := by decide +kernel
theorem d_M_exchange_28 : decode b_M_exchange 28 = .ok (.iadd, 1) := by decide +kernel
theorem d_M_exchange_29 : decode b_M_exchange 29 = .ok (.baload, 1) := by decide +kernel
theorem d_M_exchange_30 : decode b_M_exchange 30 = .ok (.ifCond .eq 18, 3) := by decide +kernel
theorem d_M_exchange_33 : decode b_M_exchange 33 = .ok (.aload_n 0, 1) := by decide +kernel
theorem d_M_exchange_34 : decode b_M_exchange 34 = .ok (.getfield 20, 3) := by decide +kernel
theorem d_M_exchange_37 : decode b_M_exchange 37 = .ok (.iload 4, 2) := by decide +kernel
theorem d_M_exchange_39 : decode b_M_exchange 39 = .ok (.iaload, 1) := by decide +kernel
theorem d_M_exchange_40 : decode b_M_exchange 40 = .ok (.iload_n 3, 1) := by decide +kernel
theorem d_M_exchange_41 : decode b_M_exchange 41 = .ok (.if_icmp .ne 7, 3) := by decide +kernel
theorem d_M_exchange_44 : decode b_M_exchange 44 = .ok (.iconst 1, 1) := by decide +kernel
theorem d_M_exchange_45 : decode b_M_exchange 45 = .ok (.goto 4, 3) := by decide +kernel
theorem d_M_exchange_48 : decode b_M_exchange 48 = .ok (.iconst 0, 1) := by decide +kernel
theorem d_M_exchange_49 : decode b_M_exchange 49 = .ok (.bastore, 1) := by decide +kernel
theorem d_M_exchange_50 : decode b_M_exchange 50 = .ok (.aload_n 0, 1) := by decide +kernel
theorem d_M_exchange_51 : decode b_M_exchange 51 = .ok (.getfield 38, 3) := by decide +kernel
theorem d_M_exchange_54 : decode b_M_exchange 54 = .ok (.bipush 40, 2) := by decide +kernel
theorem d_M_exchange_56 : decode b_M_exchange 56 = .ok (.iload 4, 2) := by decide +kernel
theorem d_M_exchange_58 : decode b_M_exchange 58 = .ok (.iadd, 1) := by decide +kernel
theorem d_M_exchange_59 : decode b_M_exchange 59 = .ok (.aload_n 0, 1) := by decide +kernel
theorem d_M_exchange_60 : decode b_M_exchange 60 = .ok (.getfield 32, 3) := by decide +kernel
theorem d_M_exchange_63 : decode b_M_exchange 63 = .ok (.bipush 40, 2) := by decide +kernel
theorem d_M_exchange_65 : decode b_M_exchange 65 = .ok (.iload_n 2, 1) := by decide +kernel
theorem d_M_exchange_66 : decode b_M_exchange 66 = .ok (.imul, 1) := by decide +kernel
theorem d_M_exchange_67 : decode b_M_exchange 67 = .ok (.iload 4, 2) := by decide +kernel
theorem d_M_exchange_69 : decode b_M_exchange 69 = .ok (.iadd, 1) := by decide +kernel
theorem d_M_exchange_70 : decode b_M_exchange 70 = .ok (.baload, 1) := by decide +kernel
theorem d_M_exchange_71 : decode b_M_exchange 71 = .ok (.ifCond .eq 18, 3) := by decide +kernel
theorem d_M_exchange_74 : decode b_M_exchange 74 = .ok (.aload_n 0, 1) := by decide +kernel
theorem d_M_exchange_75 : decode b_M_exchange 75 = .ok (.getfield 20, 3) := by decide +kernel
theorem d_M_exchange_78 : decode b_M_exchange 78 = .ok (.iload 4, 2) := by decide +kernel
theorem d_M_exchange_80 : decode b_M_exchange 80 = .ok (.iaload, 1) := by decide +kernel
theorem d_M_exchange_81 : decode b_M_exchange 81 = .ok (.iload_n 3, 1) := by decide +kernel
theorem d_M_exchange_82 : decode b_M_exchange 82 = .ok (.if_icmp .ne 7, 3) := by decide +kernel
theorem d_M_exchange_85 : decode b_M_exchange 85 = .ok (.iconst 1, 1) := by decide +kernel
theorem d_M_exchange_86 : decode b_M_exchange 86 = .ok (.goto 4, 3) := by decide +kernel
theorem d_M_exchange_89 : decode b_M_exchange 89 = .ok (.iconst 0, 1) := by decide +kernel
theorem d_M_exchange_90 : decode b_M_exchange 90 = .ok (.bastore, 1) := by decide +kernel
theorem d_M_exchange_91 : decode b_M_exchange 91 = .ok (.iinc 4 1, 3) := by decide +kernel
theorem d_M_exchange_94 : decode b_M_exchange 94 = .ok (.goto (-91), 3) := by decide +kernel
end
section
theorem d_M_exchange_97 : decode b_M_exchange 97 = .ok (.iconst 0, 1) := by decide +kernel
theorem d_M_exchange_98 : decode b_M_exchange 98 = .ok (.istore 4, 2) := by decide +kernel
theorem d_M_exchange_100 : decode b_M_exchange 100 = .ok (.iload 4, 2) := by decide +kernel
theorem d_M_exchange_102 : decode b_M_exchange 102 = .ok (.aload_n 0, 1) := by decide +kernel
theorem d_M_exchange_103 : decode b_M_exchange 103 = .ok (.getfield 102, 3) := by decide +kernel
theorem d_M_exchange_106 : decode b_M_exchange 106 = .ok (.if_icmp .ge 46, 3) := by decide +kernel
theorem d_M_exchange_109 : decode b_M_exchange 109 = .ok (.aload_n 0, 1) := by decide +kernel
theorem d_M_exchange_110 : decode b_M_exchange 110 = .ok (.getfield 38, 3) := by decide +kernel
theorem d_M_exchange_113 : decode b_M_exchange 113 = .ok (.bipush 40, 2) := by decide +kernel
theorem d_M_exchange_115 : decode b_M_exchange 115 = .ok (.iload 4, 2) := by decide +kernel
theorem d_M_exchange_117 : decode b_M_exchange 117 = .ok (.iadd, 1) := by decide +kernel
theorem d_M_exchange_118 : decode b_M_exchange 118 = .ok (.baload, 1) := by decide +kernel
theorem d_M_exchange_119 : decode b_M_exchange 119 = .ok (.ifCond .eq 10, 3) := by decide +kernel
theorem d_M_exchange_122 : decode b_M_exchange 122 = .ok (.aload_n 0, 1) := by decide +kernel
theorem d_M_exchange_123 : decode b_M_exchange 123 = .ok (.iload_n 1, 1) := by decide +kernel
theorem d_M_exchange_124 : decode b_M_exchange 124 = .ok (.iload 4, 2) := by decide +kernel
theorem d_M_exchange_126 : decode b_M_exchange 126 = .ok (.invokevirtual 112, 3) := by decide +kernel
theorem d_M_exchange_129 : decode b_M_exchange 129 = .ok (.aload_n 0, 1) := by decide +kernel
theorem d_M_exchange_130 : decode b_M_exchange 130 = .ok (.getfield 38, 3) := by decide +kernel
theorem d_M_exchange_133 : decode b_M_exchange 133 = .ok (.iload 4, 2) := by decide +kernel
theorem d_M_exchange_135 : decode b_M_exchange 135 = .ok (.baload, 1) := by decide +kernel
theorem d_M_exchange_136 : decode b_M_exchange 136 = .ok (.ifCond .eq 10, 3) := by decide +kernel
theorem d_M_exchange_139 : decode b_M_exchange 139 = .ok (.aload_n 0, 1) := by decide +kernel
theorem d_M_exchange_140 : decode b_M_exchange 140 = .ok (.iload_n 2, 1) := by decide +kernel
theorem d_M_exchange_141 : decode b_M_exchange 141 = .ok (.iload 4, 2) := by decide +kernel
theorem d_M_exchange_143 : decode b_M_exchange 143 = .ok (.invokevirtual 112, 3) := by decide +kernel
theorem d_M_exchange_146 : decode b_M_exchange 146 = .ok (.iinc 4 1, 3) := by decide +kernel
theorem d_M_exchange_149 : decode b_M_exchange 149 = .ok (.goto (-49), 3) := by decide +kernel
theorem d_M_exchange_152 : decode b_M_exchange 152 = .ok (.return_, 1) := by decide +kernel
theorem d_M_compare_0 : decode b_M_compare 0 = .ok (.iload_n 1, 1) := by decide +kernel
theorem d_M_compare_1 : decode b_M_compare 1 = .ok (.invokestatic 69, 3) := by decide +kernel
theorem d_M_compare_4 : decode b_M_compare 4 = .ok (.ifCond .eq 15, 3) := by decide +kernel
theorem d_M_compare_7 : decode b_M_compare 7 = .ok (.iload_n 2, 1) := by decide +kernel
theorem d_M_compare_8 : decode b_M_compare 8 = .ok (.invokestatic 69, 3) := by decide +kernel
theorem d_M_compare_11 : decode b_M_compare 11 = .ok (.ifCond .eq 8, 3) := by decide +kernel
theorem d_M_compare_14 : decode b_M_compare 14 = .ok (.iload_n 1, 1) := by decide +kernel
theorem d_M_compare_15 : decode b_M_compare 15 = .ok (.iload_n 2, 1) := by decide +kernel
theorem d_M_compare_16 : decode b_M_compare 16 = .ok (.if_icmp .ne 5, 3) := by decide +kernel
theorem d_M_compare_19 : decode b_M_compare 19 = .ok (.iconst (-1), 1) := by decide +kernel
theorem d_M_compare_20 : decode b_M_compare 20 = .ok (.ireturn, 1) := by decide +kernel
theorem d_M_compare_21 : decode b_M_compare 21 = .ok (.aload_n 0, 1) := by decide +kernel
theorem d_M_compare_22 : decode b_M_compare 22 = .ok (.iload_n 1, 1) := by decide +kernel
theorem d_M_compare_23 : decode b_M_compare 23 = .ok (.iload_n 2, 1) := by decide +kernel
theorem d_M_compare_24 : decode b_M_compare 24 = .ok (.invokevirtual 94, 3) := by decide +kernel
theorem d_M_compare_27 : decode b_M_compare 27 = .ok (.ifCond .ne 6, 3) := by decide +kernel
theorem d_M_compare_30 : decode b_M_compare 30 = .ok (.bipush (-2), 2) := by decide +kernel
theorem d_M_compare_32 : decode b_M_compare 32 = .ok (.ireturn, 1) := by decide +kernel
theorem d_M_compare_33 : decode b_M_compare 33 = .ok (.iconst 1, 1) := by decide +kernel
theorem d_M_compare_34 : decode b_M_compare 34 = .ok (.istore_n 3, 1) := by decide +kernel
theorem d_M_compare_35 : decode b_M_compare 35 = .ok (.bipush 32, 2) := by decide +kernel
theorem d_M_compare_37 : decode b_M_compare 37 = .ok (.istore 4, 2) := by decide +kernel
theorem d_M_compare_39 : decode b_M_compare 39 = .ok (.iload 4, 2) := by decide +kernel
theorem d_M_compare_41 : decode b_M_compare 41 = .ok (.iconst 1, 1) := by decide +kernel
theorem d_M_compare_42 : decode b_M_compare 42 = .ok (.if_icmp .le 91, 3) := by decide +kernel
theorem d_M_compare_45 : decode b_M_compare 45 = .ok (.iconst 0, 1) := by decide +kernel
theorem d_M_compare_46 : decode b_M_compare 46 = .ok (.istore 5, 2) := by decide +kernel
theorem d_M_compare_48 : decode b_M_compare 48 = .ok (.iload 5, 2) := by decide +kernel
theorem d_M_compare_50 : decode b_M_compare 50 = .ok (.bipush 32, 2) := by decide +kernel
theorem d_M_compare_52 : decode b_M_compare 52 = .ok (.if_icmp .ge 72, 3) := by decide +kernel
theorem d_M_compare_55 : decode b_M_compare 55 = .ok (.iconst 0, 1) := by decide +kernel
theorem d_M_compare_56 : decode b_M_compare 56 = .ok (.istore 6, 2) := by decide +kernel
theorem d_M_compare_58 : decode b_M_compare 58 = .ok (.iload 5, 2) := by decide +kernel
theorem d_M_compare_60 : decode b_M_compare 60 = .ok (.istore 7, 2) := by decide +kernel
theorem d_M_compare_62 : decode b_M_compare 62 = .ok (.iload 7, 2) := by decide +kernel
theorem d_M_compare_64 : decode b_M_compare 64 = .ok (.iload 5, 2) := by decide +kernel
theorem d_M_compare_66 : decode b_M_compare 66 = .ok (.iload 4, 2) := by decide +kernel
theorem d_M_compare_68 : decode b_M_compare 68 = .ok (.iadd, 1) := by decide +kernel
theorem d_M_compare_69 : decode b_M_compare 69 = .ok (.if_icmp .ge 32, 3) := by decide +kernel
theorem d_M_compare_72 : decode b_M_compare 72 = .ok (.iload 6, 2) := by decide +kernel
theorem d_M_compare_74 : decode b_M_compare 74 = .ok (.ifCond .ne 14, 3) := by decide +kernel
theorem d_M_compare_77 : decode b_M_compare 77 = .ok (.aload_n 0, 1) := by decide +kernel
theorem d_M_compare_78 : decode b_M_compare 78 = .ok (.iload_n 1, 1) := by decide +kernel
theorem d_M_compare_79 : decode b_M_compare 79 = .ok (.iload_n 2, 1) := by decide +kernel
theorem d_M_compare_80 : decode b_M_compare 80 = .ok (.iload 7, 2) := by decide +kernel
theorem d_M_compare_82 : decode b_M_compare 82 = .ok (.invokevirtual 139, 3) := by decide +kernel
theorem d_M_compare_85 : decode b_M_compare 85 = .ok (.ifCond .eq 7, 3) := by decide +kernel
theorem d_M_compare_88 : decode b_M_compare 88 = .ok (.iconst 1, 1) := by decide +kernel
theorem d_M_compare_89 : decode b_M_compare 89 = .ok (.goto 4, 3) := by decide +kernel
theorem d_M_compare_92 : decode b_M_compare 92 = .ok (.iconst 0, 1) := by decide +kernel
theorem d_M_compare_93 : decode b_M_compare 93 = .ok (.istore 6, 2) := by decide +kernel
theorem d_M_compare_95 : decode b_M_compare 95 = .ok (.iinc 7 1, 3) := by decide +kernel
theorem d_M_compare_98 : decode b_M_compare 98 = .ok (.goto (-36), 3) := by decide +kernel
theorem d_M_compare_101 : decode b_M_compare 101 = .ok (.iload 6, 2) := by decide +kernel
theorem d_M_compare_103 : decode b_M_compare 103 = .ok (.ifCond .eq 9, 3) := by decide +kernel
theorem d_M_compare_106 : decode b_M_compare 106 = .ok (.iload_n 3, 1) := by decide +kernel
theorem d_M_compare_107 : decode b_M_compare 107 = .ok (.iconst 2, 1) := by decide +kernel
theorem d_M_compare_108 : decode b_M_compare 108 = .ok (.iadd, 1) := by decide +kernel
theorem d_M_compare_109 : decode b_M_compare 109 = .ok (.goto 4, 3) := by decide +kernel
theorem d_M_compare_112 : decode b_M_compare 112 = .ok (.iload_n 3, 1) := by decide +kernel
theorem d_M_compare_113 : decode b_M_compare 113 = .ok (.istore_n 3, 1) := by decide +kernel
theorem d_M_compare_114 : decode b_M_compare 114 = .ok (.iload 5, 2) := by decide +kernel
theorem d_M_compare_116 : decode b_M_compare 116 = .ok (.iload 4, 2) := by decide +kernel
theorem d_M_compare_118 : decode b_M_compare 118 = .ok (.iadd, 1) := by decide +kernel
theorem d_M_compare_119 : decode b_M_compare 119 = .ok (.istore 5, 2) := by decide +kernel
theorem d_M_compare_121 : decode b_M_compare 121 = .ok (.goto (-73), 3) := by decide +kernel
theorem d_M_compare_124 : decode b_M_compare 124 = .ok (.iload 4, 2) := by decide +kernel
theorem d_M_compare_126 : decode b_M_compare 126 = .ok (.iconst 2, 1) := by decide +kernel
theorem d_M_compare_127 : decode b_M_compare 127 = .ok (.idiv, 1) := by decide +kernel
theorem d_M_compare_128 : decode b_M_compare 128 = .ok (.istore 4, 2) := by decide +kernel
theorem d_M_compare_130 : decode b_M_compare 130 = .ok (.goto (-91), 3) := by decide +kernel
theorem d_M_compare_133 : decode b_M_compare 133 = .ok (.iconst 0, 1) := by decide +kernel
theorem d_M_compare_134 : decode b_M_compare 134 = .ok (.istore 4, 2) := by decide +kernel
theorem d_M_compare_136 : decode b_M_compare 136 = .ok (.iload 4, 2) := by decide +kernel
theorem d_M_compare_138 : decode b_M_compare 138 = .ok (.bipush 32, 2) := by decide +kernel
theorem d_M_compare_140 : decode b_M_compare 140 = .ok (.if_icmp .ge 28, 3) := by decide +kernel
theorem d_M_compare_143 : decode b_M_compare 143 = .ok (.aload_n 0, 1) := by decide +kernel
theorem d_M_compare_144 : decode b_M_compare 144 = .ok (.iload_n 1, 1) := by decide +kernel
theorem d_M_compare_145 : decode b_M_compare 145 = .ok (.iload_n 2, 1) := by decide +kernel
theorem d_M_compare_146 : decode b_M_compare 146 = .ok (.iload 4, 2) := by decide +kernel
theorem d_M_compare_148 : decode b_M_compare 148 = .ok (.invokevirtual 139, 3) := by decide +kernel
theorem d_M_compare_151 : decode b_M_compare 151 = .ok (.ifCond .eq 11, 3) := by decide +kernel
theorem d_M_compare_154 : decode b_M_compare 154 = .ok (.aload_n 0, 1) := by decide +kernel
theorem d_M_compare_155 : decode b_M_compare 155 = .ok (.iload_n 1, 1) := by decide +kernel
theorem d_M_compare_156 : decode b_M_compare 156 = .ok (.iload_n 2, 1) := by decide +kernel
theorem d_M_compare_157 : decode b_M_compare 157 = .ok (.iload 4, 2) := by decide +kernel
theorem d_M_compare_159 : decode b_M_compare 159 = .ok (.invokevirtual 143, 3) := by decide +kernel
theorem d_M_compare_162 : decode b_M_compare 162 = .ok (.iinc 4 1, 3) := by decide +kernel
theorem d_M_compare_165 : decode b_M_compare 165 = .ok (.goto (-29), 3) := by decide +kernel
theorem d_M_compare_168 : decode b_M_compare 168 = .ok (.iload_n 3, 1) := by decide +kernel
theorem d_M_compare_169 : decode b_M_compare 169 = .ok (.ireturn, 1) := by decide +kernel
theorem d_M_holds_0 : decode b_M_holds 0 = .ok (.iload_n 1, 1) := by decide +kernel
theorem d_M_holds_1 : decode b_M_holds 1 = .ok (.invokestatic 69, 3) := by decide +kernel
theorem d_M_holds_4 : decode b_M_holds 4 = .ok (.ifCond .eq 15, 3) := by decide +kernel
theorem d_M_holds_7 : decode b_M_holds 7 = .ok (.iload_n 2, 1) := by decide +kernel
theorem d_M_holds_8 : decode b_M_holds 8 = .ok (.ifCond .lt 11, 3) := by decide +kernel
theorem d_M_holds_11 : decode b_M_holds 11 = .ok (.iload_n 2, 1) := by decide +kernel
theorem d_M_holds_12 : decode b_M_holds 12 = .ok (.aload_n 0, 1) := by decide +kernel
theorem d_M_holds_13 : decode b_M_holds 13 = .ok (.getfield 102, 3) := by decide +kernel
theorem d_M_holds_16 : decode b_M_holds 16 = .ok (.if_icmp .lt 5, 3) := by decide +kernel
theorem d_M_holds_19 : decode b_M_holds 19 = .ok (.iconst (-1), 1) := by decide +kernel
theorem d_M_holds_20 : decode b_M_holds 20 = .ok (.ireturn, 1) := by decide +kernel
theorem d_M_holds_21 : decode b_M_holds 21 = .ok (.aload_n 0, 1) := by decide +kernel
theorem d_M_holds_22 : decode b_M_holds 22 = .ok (.getfield 32, 3) := by decide +kernel
theorem d_M_holds_25 : decode b_M_holds 25 = .ok (.bipush 40, 2) := by decide +kernel
theorem d_M_holds_27 : decode b_M_holds 27 = .ok (.iload_n 1, 1) := by decide +kernel
theorem d_M_holds_28 : decode b_M_holds 28 = .ok (.imul, 1) := by decide +kernel
theorem d_M_holds_29 : decode b_M_holds 29 = .ok (.iload_n 2, 1) := by decide +kernel
theorem d_M_holds_30 : decode b_M_holds 30 = .ok (.iadd, 1) := by decide +kernel
theorem d_M_holds_31 : decode b_M_holds 31 = .ok (.baload, 1) := by decide +kernel
theorem d_M_holds_32 : decode b_M_holds 32 = .ok (.ifCond .eq 7, 3) := by decide +kernel
theorem d_M_holds_35 : decode b_M_holds 35 = .ok (.iconst 1, 1) := by decide +kernel
theorem d_M_holds_36 : decode b_M_holds 36 = .ok (.goto 4, 3) := by decide +kernel
theorem d_M_holds_39 : decode b_M_holds 39 = .ok (.iconst 0, 1) := by decide +kernel
theorem d_M_holds_40 : decode b_M_holds 40 = .ok (.aload_n 0, 1) := by decide +kernel
theorem d_M_holds_41 : decode b_M_holds 41 = .ok (.getfield 35, 3) := by decide +kernel
theorem d_M_holds_44 : decode b_M_holds 44 = .ok (.bipush 40, 2) := by decide +kernel
theorem d_M_holds_46 : decode b_M_holds 46 = .ok (.iload_n 1, 1) := by decide +kernel
theorem d_M_holds_47 : decode b_M_holds 47 = .ok (.imul, 1) := by decide +kernel
theorem d_M_holds_48 : decode b_M_holds 48 = .ok (.iload_n 2, 1) := by decide +kernel
theorem d_M_holds_49 : decode b_M_holds 49 = .ok (.iadd, 1) := by decide +kernel
theorem d_M_holds_50 : decode b_M_holds 50 = .ok (.iaload, 1) := by decide +kernel
theorem d_M_holds_51 : decode b_M_holds 51 = .ok (.ifCond .le 7, 3) := by decide +kernel
theorem d_M_holds_54 : decode b_M_holds 54 = .ok (.iconst 2, 1) := by decide +kernel
theorem d_M_holds_55 : decode b_M_holds 55 = .ok (.goto 4, 3) := by decide +kernel
theorem d_M_holds_58 : decode b_M_holds 58 = .ok (.iconst 0, 1) := by decide +kernel
theorem d_M_holds_59 : decode b_M_holds 59 = .ok (.iadd, 1) := by decide +kernel
theorem d_M_holds_60 : decode b_M_holds 60 = .ok (.ireturn, 1) := by decide +kernel
theorem d_M_count_0 : decode b_M_count 0 = .ok (.iload_n 1, 1) := by decide +kernel
theorem d_M_count_1 : decode b_M_count 1 = .ok (.invokestatic 69, 3) := by decide +kernel
theorem d_M_count_4 : decode b_M_count 4 = .ok (.ifCond .eq 10, 3) := by decide +kernel
theorem d_M_count_7 : decode b_M_count 7 = .ok (.iload_n 2, 1) := by decide +kernel
theorem d_M_count_8 : decode b_M_count 8 = .ok (.invokestatic 84, 3) := by decide +kernel
theorem d_M_count_11 : decode b_M_count 11 = .ok (.ifCond .ne 5, 3) := by decide +kernel
theorem d_M_count_14 : decode b_M_count 14 = .ok (.iconst (-1), 1) := by decide +kernel
theorem d_M_count_15 : decode b_M_count 15 = .ok (.ireturn, 1) := by decide +kernel
theorem d_M_count_16 : decode b_M_count 16 = .ok (.iconst 0, 1) := by decide +kernel
theorem d_M_count_17 : decode b_M_count 17 = .ok (.istore_n 3, 1) := by decide +kernel
theorem d_M_count_18 : decode b_M_count 18 = .ok (.iconst 0, 1) := by decide +kernel
theorem d_M_count_19 : decode b_M_count 19 = .ok (.istore 4, 2) := by decide +kernel
theorem d_M_count_21 : decode b_M_count 21 = .ok (.iload 4, 2) := by decide +kernel
theorem d_M_count_23 : decode b_M_count 23 = .ok (.aload_n 0, 1) := by decide +kernel
theorem d_M_count_24 : decode b_M_count 24 = .ok (.getfield 102, 3) := by decide +kernel
theorem d_M_count_27 : decode b_M_count 27 = .ok (.if_icmp .ge 43, 3) := by decide +kernel
theorem d_M_count_30 : decode b_M_count 30 = .ok (.aload_n 0, 1) := by decide +kernel
theorem d_M_count_31 : decode b_M_count 31 = .ok (.getfield 32, 3) := by decide +kernel
theorem d_M_count_34 : decode b_M_count 34 = .ok (.bipush 40, 2) := by decide +kernel
theorem d_M_count_36 : decode b_M_count 36 = .ok (.iload_n 1, 1) := by decide +kernel
theorem d_M_count_37 : decode b_M_count 37 = .ok (.imul, 1) := by decide +kernel
theorem d_M_count_38 : decode b_M_count 38 = .ok (.iload 4, 2) := by decide +kernel
theorem d_M_count_40 : decode b_M_count 40 = .ok (.iadd, 1) := by decide +kernel
theorem d_M_count_41 : decode b_M_count 41 = .ok (.baload, 1) := by decide +kernel
theorem d_M_count_42 : decode b_M_count 42 = .ok (.ifCond .eq 20, 3) := by decide +kernel
theorem d_M_count_45 : decode b_M_count 45 = .ok (.aload_n 0, 1) := by decide +kernel
theorem d_M_count_46 : decode b_M_count 46 = .ok (.getfield 20, 3) := by decide +kernel
theorem d_M_count_49 : decode b_M_count 49 = .ok (.iload 4, 2) := by decide +kernel
theorem d_M_count_51 : decode b_M_count 51 = .ok (.iaload, 1) := by decide +kernel
theorem d_M_count_52 : decode b_M_count 52 = .ok (.iload_n 2, 1) := by decide +kernel
theorem d_M_count_53 : decode b_M_count 53 = .ok (.if_icmp .ne 9, 3) := by decide +kernel
theorem d_M_count_56 : decode b_M_count 56 = .ok (.iload_n 3, 1) := by decide +kernel
theorem d_M_count_57 : decode b_M_count 57 = .ok (.iconst 1, 1) := by decide +kernel
theorem d_M_count_58 : decode b_M_count 58 = .ok (.iadd, 1) := by decide +kernel
theorem d_M_count_59 : decode b_M_count 59 = .ok (.goto 4, 3) := by decide +kernel
theorem d_M_count_62 : decode b_M_count 62 = .ok (.iload_n 3, 1) := by decide +kernel
theorem d_M_count_63 : decode b_M_count 63 = .ok (.istore_n 3, 1) := by decide +kernel
theorem d_M_count_64 : decode b_M_count 64 = .ok (.iinc 4 1, 3) := by decide +kernel
theorem d_M_count_67 : decode b_M_count 67 = .ok (.goto (-46), 3) := by decide +kernel
theorem d_M_count_70 : decode b_M_count 70 = .ok (.iload_n 3, 1) := by decide +kernel
theorem d_M_count_71 : decode b_M_count 71 = .ok (.ireturn, 1) := by decide +kernel
theorem d_M_hints_0 : decode b_M_hints 0 = .ok (.iload_n 1, 1) := by decide +kernel
theorem d_M_hints_1 : decode b_M_hints 1 = .ok (.invokestatic 69, 3) := by decide +kernel
theorem d_M_hints_4 : decode b_M_hints 4 = .ok (.ifCond .ne 5, 3) := by decide +kernel
theorem d_M_hints_7 : decode b_M_hints 7 = .ok (.iconst (-1), 1) := by decide +kernel
theorem d_M_hints_8 : decode b_M_hints 8 = .ok (.ireturn, 1) := by decide +kernel
theorem d_M_hints_9 : decode b_M_hints 9 = .ok (.iconst 0, 1) := by decide +kernel
theorem d_M_hints_10 : decode b_M_hints 10 = .ok (.istore_n 2, 1) := by decide +kernel
theorem d_M_hints_11 : decode b_M_hints 11 = .ok (.iconst 0, 1) := by decide +kernel
theorem d_M_hints_12 : decode b_M_hints 12 = .ok (.istore_n 3, 1) := by decide +kernel
theorem d_M_hints_13 : decode b_M_hints 13 = .ok (.iload_n 3, 1) := by decide +kernel
theorem d_M_hints_14 : decode b_M_hints 14 = .ok (.aload_n 0, 1) := by decide +kernel
theorem d_M_hints_15 : decode b_M_hints 15 = .ok (.getfield 102, 3) := by decide +kernel
theorem d_M_hints_18 : decode b_M_hints 18 = .ok (.if_icmp .ge 31, 3) := by decide +kernel
theorem d_M_hints_21 : decode b_M_hints 21 = .ok (.aload_n 0, 1) := by decide +kernel
theorem d_M_hints_22 : decode b_M_hints 22 = .ok (.getfield 35, 3) := by decide +kernel
theorem d_M_hints_25 : decode b_M_hints 25 = .ok (.bipush 40, 2) := by decide +kernel
theorem d_M_hints_27 : decode b_M_hints 27 = .ok (.iload_n 1, 1) := by decide +kernel
theorem d_M_hints_28 : decode b_M_hints 28 = .ok (.imul, 1) := by decide +kernel
theorem d_M_hints_29 : decode b_M_hints 29 = .ok (.iload_n 3, 1) := by decide +kernel
theorem d_M_hints_30 : decode b_M_hints 30 = .ok (.iadd, 1) := by decide +kernel
theorem d_M_hints_31 : decode b_M_hints 31 = .ok (.iaload, 1) := by decide +kernel
theorem d_M_hints_32 : decode b_M_hints 32 = .ok (.ifCond .le 9, 3) := by decide +kernel
theorem d_M_hints_35 : decode b_M_hints 35 = .ok (.iload_n 2, 1) := by decide +kernel
theorem d_M_hints_36 : decode b_M_hints 36 = .ok (.iconst 1, 1) := by decide +kernel
theorem d_M_hints_37 : decode b_M_hints 37 = .ok (.iadd, 1) := by decide +kernel
theorem d_M_hints_38 : decode b_M_hints 38 = .ok (.goto 4, 3) := by decide +kernel
theorem d_M_hints_41 : decode b_M_hints 41 = .ok (.iload_n 2, 1) := by decide +kernel
theorem d_M_hints_42 : decode b_M_hints 42 = .ok (.istore_n 2, 1) := by decide +kernel
theorem d_M_hints_43 : decode b_M_hints 43 = .ok (.iinc 3 1, 3) := by decide +kernel
theorem d_M_hints_46 : decode b_M_hints 46 = .ok (.goto (-33), 3) := by decide +kernel
theorem d_M_hints_49 : decode b_M_hints 49 = .ok (.iload_n 2, 1) := by decide +kernel
theorem d_M_hints_50 : decode b_M_hints 50 = .ok (.ireturn, 1) := by decide +kernel
theorem d_M_versions_0 : decode b_M_versions 0 = .ok (.aload_n 0, 1) := by decide +kernel
theorem d_M_versions_1 : decode b_M_versions 1 = .ok (.getfield 102, 3) := by decide +kernel
theorem d_M_versions_4 : decode b_M_versions 4 = .ok (.ireturn, 1) := by decide +kernel
theorem d_M_version_0 : decode b_M_version 0 = .ok (.iload_n 1, 1) := by decide +kernel
theorem d_M_version_1 : decode b_M_version 1 = .ok (.ifCond .lt 21, 3) := by decide +kernel
theorem d_M_version_4 : decode b_M_version 4 = .ok (.iload_n 1, 1) := by decide +kernel
theorem d_M_version_5 : decode b_M_version 5 = .ok (.aload_n 0, 1) := by decide +kernel
theorem d_M_version_6 : decode b_M_version 6 = .ok (.getfield 102, 3) := by decide +kernel
theorem d_M_version_9 : decode b_M_version 9 = .ok (.if_icmp .ge 13, 3) := by decide +kernel
theorem d_M_version_12 : decode b_M_version 12 = .ok (.iload_n 2, 1) := by decide +kernel
theorem d_M_version_13 : decode b_M_version 13 = .ok (.ifCond .lt 9, 3) := by decide +kernel
theorem d_M_version_16 : decode b_M_version 16 = .ok (.iload_n 2, 1) := by decide +kernel
theorem d_M_version_17 : decode b_M_version 17 = .ok (.bipush 6, 2) := by decide +kernel
theorem d_M_version_19 : decode b_M_version 19 = .ok (.if_icmp .le 5, 3) := by decide +kernel
theorem d_M_version_22 : decode b_M_version 22 = .ok (.iconst 0, 1) := by decide +kernel
theorem d_M_version_23 : decode b_M_version 23 = .ok (.ireturn, 1) := by decide +kernel
theorem d_M_version_24 : decode b_M_version 24 = .ok (.iload_n 2, 1) := by decide +kernel
theorem d_M_version_25 : decode b_M_version 25 = .ok (.iconst 5, 1) := by decide +kernel
theorem d_M_version_26 : decode b_M_version 26 = .ok (.if_icmp .ne 12, 3) := by decide +kernel
theorem d_M_version_29 : decode b_M_version 29 = .ok (.aload_n 0, 1) := by decide +kernel
theorem d_M_version_30 : decode b_M_version 30 = .ok (.getfield 20, 3) := by decide +kernel
theorem d_M_version_33 : decode b_M_version 33 = .ok (.iload_n 1, 1) := by decide +kernel
theorem d_M_version_34 : decode b_M_version 34 = .ok (.iaload, 1) := by decide +kernel
theorem d_M_version_35 : decode b_M_version 35 = .ok (.goto 28, 3) := by decide +kernel
theorem d_M_version_38 : decode b_M_version 38 = .ok (.iload_n 2, 1) := by decide +kernel
theorem d_M_version_39 : decode b_M_version 39 = .ok (.bipush 6, 2) := by decide +kernel
theorem d_M_version_41 : decode b_M_version 41 = .ok (.if_icmp .ne 12, 3) := by decide +kernel
theorem d_M_version_44 : decode b_M_version 44 = .ok (.aload_n 0, 1) := by decide +kernel
theorem d_M_version_45 : decode b_M_version 45 = .ok (.getfield 23, 3) := by decide +kernel
theorem d_M_version_48 : decode b_M_version 48 = .ok (.iload_n 1, 1) := by decide +kernel
theorem d_M_version_49 : decode b_M_version 49 = .ok (.iaload, 1) := by decide +kernel
theorem d_M_version_50 : decode b_M_version 50 = .ok (.goto 13, 3) := by decide +kernel
theorem d_M_version_53 : decode b_M_version 53 = .ok (.aload_n 0, 1) := by decide +kernel
theorem d_M_version_54 : decode b_M_version 54 = .ok (.getfield 29, 3) := by decide +kernel
theorem d_M_version_57 : decode b_M_version 57 = .ok (.iconst 5, 1) := by decide +kernel
theorem d_M_version_58 : decode b_M_version 58 = .ok (.iload_n 1, 1) := by decide +kernel
theorem d_M_version_59 : decode b_M_version 59 = .ok (.imul, 1) := by decide +kernel
theorem d_M_version_60 : decode b_M_version 60 = .ok (.iload_n 2, 1) := by decide +kernel
theorem d_M_version_61 : decode b_M_version 61 = .ok (.iadd, 1) := by decide +kernel
theorem d_M_version_62 : decode b_M_version 62 = .ok (.iaload, 1) := by decide +kernel
theorem d_M_version_63 : decode b_M_version 63 = .ok (.ireturn, 1) := by decide +kernel
theorem d_M_context_0 : decode b_M_context 0 = .ok (.iload_n 1, 1) := by decide +kernel
theorem d_M_context_1 : decode b_M_context 1 = .ok (.ifCond .lt 24, 3) := by decide +kernel
theorem d_M_context_4 : decode b_M_context 4 = .ok (.iload_n 1, 1) := by decide +kernel
theorem d_M_context_5 : decode b_M_context 5 = .ok (.iconst 3, 1) := by decide +kernel
theorem d_M_context_6 : decode b_M_context 6 = .ok (.if_icmp .gt 19, 3) := by decide +kernel
theorem d_M_context_9 : decode b_M_context 9 = .ok (.aload_n 0, 1) := by decide +kernel
theorem d_M_context_10 : decode b_M_context 10 = .ok (.getfield 44, 3) := by decide +kernel
theorem d_M_context_13 : decode b_M_context 13 = .ok (.iload_n 1, 1) := by decide +kernel
theorem d_M_context_14 : decode b_M_context 14 = .ok (.baload, 1) := by decide +kernel
theorem d_M_context_15 : decode b_M_context 15 = .ok (.ifCond .eq 10, 3) := by decide +kernel
theorem d_M_context_18 : decode b_M_context 18 = .ok (.iload_n 2, 1) := by decide +kernel
theorem d_M_context_19 : decode b_M_context 19 = .ok (.invokestatic 69, 3) := by decide +kernel
theorem d_M_context_22 : decode b_M_context 22 = .ok (.ifCond .ne 7, 3) := by decide +kernel
theorem d_M_context_25 : decode b_M_context 25 = .ok (.iconst (-1), 1) := by decide +kernel
theorem d_M_context_26 : decode b_M_context 26 = .ok (.goto 13, 3) := by decide +kernel
theorem d_M_context_29 : decode b_M_context 29 = .ok (.aload_n 0, 1) := by decide +kernel
theorem d_M_context_30 : decode b_M_context 30 = .ok (.getfield 47, 3) := by decide +kernel
theorem d_M_context_33 : decode b_M_context 33 = .ok (.iconst 5, 1) := by decide +kernel
theorem d_M_context_34 : decode b_M_context 34 = .ok (.iload_n 1, 1) := by decide +kernel
theorem d_M_context_35 : decode b_M_context 35 = .ok (.imul, 1) := by decide +kernel
theorem d_M_context_36 : decode b_M_context 36 = .ok (.iload_n 2, 1) := by decide +kernel
theorem d_M_context_37 : decode b_M_context 37 = .ok (.iadd, 1) := by decide +kernel
theorem d_M_context_38 : decode b_M_context 38 = .ok (.iaload, 1) := by decide +kernel
theorem d_M_context_39 : decode b_M_context 39 = .ok (.ireturn, 1) := by decide +kernel
end
section
theorem d_L_cell_0 : decode b_L_cell 0 = .ok (.iload_n 1, 1) := by decide +kernel
theorem d_L_cell_1 : decode b_L_cell 1 = .ok (.aload_n 0, 1) := by decide +kernel
theorem d_L_cell_2 : decode b_L_cell 2 = .ok (.arraylength, 1) := by decide +kernel
theorem d_L_cell_3 : decode b_L_cell 3 = .ok (.if_icmp .ge 9, 3) := by decide +kernel
theorem d_L_cell_6 : decode b_L_cell 6 = .ok (.aload_n 0, 1) := by decide +kernel
theorem d_L_cell_7 : decode b_L_cell 7 = .ok (.iload_n 1, 1) := by decide +kernel
theorem d_L_cell_8 : decode b_L_cell 8 = .ok (.iaload, 1) := by decide +kernel
theorem d_L_cell_9 : decode b_L_cell 9 = .ok (.goto 4, 3) := by decide +kernel
theorem d_L_cell_12 : decode b_L_cell 12 = .ok (.iconst 0, 1) := by decide +kernel
theorem d_L_cell_13 : decode b_L_cell 13 = .ok (.ireturn, 1) := by decide +kernel
theorem d_L_law_0 : decode b_L_law 0 = .ok (.new 7, 3) := by decide +kernel
theorem d_L_law_3 : decode b_L_law 3 = .ok (.dup, 1) := by decide +kernel
theorem d_L_law_4 : decode b_L_law 4 = .ok (.aload_n 0, 1) := by decide +kernel
theorem d_L_law_5 : decode b_L_law 5 = .ok (.iconst 0, 1) := by decide +kernel
theorem d_L_law_6 : decode b_L_law 6 = .ok (.invokestatic 9, 3) := by decide +kernel
theorem d_L_law_9 : decode b_L_law 9 = .ok (.aload_n 0, 1) := by decide +kernel
theorem d_L_law_10 : decode b_L_law 10 = .ok (.iconst 1, 1) := by decide +kernel
theorem d_L_law_11 : decode b_L_law 11 = .ok (.invokestatic 9, 3) := by decide +kernel
theorem d_L_law_14 : decode b_L_law 14 = .ok (.aload_n 0, 1) := by decide +kernel
theorem d_L_law_15 : decode b_L_law 15 = .ok (.iconst 2, 1) := by decide +kernel
theorem d_L_law_16 : decode b_L_law 16 = .ok (.invokestatic 9, 3) := by decide +kernel
theorem d_L_law_19 : decode b_L_law 19 = .ok (.invokespecial 15, 3) := by decide +kernel
theorem d_L_law_22 : decode b_L_law 22 = .ok (.astore_n 1, 1) := by decide +kernel
theorem d_L_law_23 : decode b_L_law 23 = .ok (.new 18, 3) := by decide +kernel
theorem d_L_law_26 : decode b_L_law 26 = .ok (.dup, 1) := by decide +kernel
theorem d_L_law_27 : decode b_L_law 27 = .ok (.aload_n 0, 1) := by decide +kernel
theorem d_L_law_28 : decode b_L_law 28 = .ok (.iconst 0, 1) := by decide +kernel
theorem d_L_law_29 : decode b_L_law 29 = .ok (.invokestatic 9, 3) := by decide +kernel
theorem d_L_law_32 : decode b_L_law 32 = .ok (.aload_n 0, 1) := by decide +kernel
theorem d_L_law_33 : decode b_L_law 33 = .ok (.iconst 1, 1) := by decide +kernel
theorem d_L_law_34 : decode b_L_law 34 = .ok (.invokestatic 9, 3) := by decide +kernel
theorem d_L_law_37 : decode b_L_law 37 = .ok (.aload_n 0, 1) := by decide +kernel
theorem d_L_law_38 : decode b_L_law 38 = .ok (.iconst 2, 1) := by decide +kernel
theorem d_L_law_39 : decode b_L_law 39 = .ok (.invokestatic 9, 3) := by decide +kernel
theorem d_L_law_42 : decode b_L_law 42 = .ok (.invokespecial 20, 3) := by decide +kernel
theorem d_L_law_45 : decode b_L_law 45 = .ok (.astore_n 2, 1) := by decide +kernel
theorem d_L_law_46 : decode b_L_law 46 = .ok (.iconst 3, 1) := by decide +kernel
theorem d_L_law_47 : decode b_L_law 47 = .ok (.istore_n 3, 1) := by decide +kernel
theorem d_L_law_48 : decode b_L_law 48 = .ok (.iload_n 3, 1) := by decide +kernel
theorem d_L_law_49 : decode b_L_law 49 = .ok (.aload_n 0, 1) := by decide +kernel
theorem d_L_law_50 : decode b_L_law 50 = .ok (.arraylength, 1) := by decide +kernel
theorem d_L_law_51 : decode b_L_law 51 = .ok (.iconst 5, 1) := by decide +kernel
theorem d_L_law_52 : decode b_L_law 52 = .ok (.isub, 1) := by decide +kernel
theorem d_L_law_53 : decode b_L_law 53 = .ok (.if_icmp .gt 687, 3) := by decide +kernel
theorem d_L_law_56 : decode b_L_law 56 = .ok (.aload_n 0, 1) := by decide +kernel
theorem d_L_law_57 : decode b_L_law 57 = .ok (.iload_n 3, 1) := by decide +kernel
theorem d_L_law_58 : decode b_L_law 58 = .ok (.iaload, 1) := by decide +kernel
theorem d_L_law_59 : decode b_L_law 59 = .ok (.bipush 31, 2) := by decide +kernel
theorem d_L_law_61 : decode b_L_law 61 = .ok (.iand, 1) := by decide +kernel
theorem d_L_law_62 : decode b_L_law 62 = .ok (.tableswitch 672 0 17 #[86, 119, 142, 191, 250, 303, 346, 369, 382, 405, 438, 471, 504, 537, 570, 593, 606, 639], 86) := by decide +kernel
theorem d_L_law_148 : decode b_L_law 148 = .ok (.aload_n 1, 1) := by decide +kernel
theorem d_L_law_149 : decode b_L_law 149 = .ok (.aload_n 0, 1) := by decide +kernel
theorem d_L_law_150 : decode b_L_law 150 = .ok (.iload_n 3, 1) := by decide +kernel
theorem d_L_law_151 : decode b_L_law 151 = .ok (.iconst 1, 1) := by decide +kernel
theorem d_L_law_152 : decode b_L_law 152 = .ok (.iadd, 1) := by decide +kernel
theorem d_L_law_153 : decode b_L_law 153 = .ok (.iaload, 1) := by decide +kernel
theorem d_L_law_154 : decode b_L_law 154 = .ok (.aload_n 0, 1) := by decide +kernel
theorem d_L_law_155 : decode b_L_law 155 = .ok (.iload_n 3, 1) := by decide +kernel
theorem d_L_law_156 : decode b_L_law 156 = .ok (.iconst 2, 1) := by decide +kernel
theorem d_L_law_157 : decode b_L_law 157 = .ok (.iadd, 1) := by decide +kernel
theorem d_L_law_158 : decode b_L_law 158 = .ok (.iaload, 1) := by decide +kernel
theorem d_L_law_159 : decode b_L_law 159 = .ok (.invokevirtual 21, 3) := by decide +kernel
theorem d_L_law_162 : decode b_L_law 162 = .ok (.aload_n 2, 1) := by decide +kernel
theorem d_L_law_163 : decode b_L_law 163 = .ok (.aload_n 0, 1) := by decide +kernel
theorem d_L_law_164 : decode b_L_law 164 = .ok (.iload_n 3, 1) := by decide +kernel
theorem d_L_law_165 : decode b_L_law 165 = .ok (.iconst 1, 1) := by decide +kernel
theorem d_L_law_166 : decode b_L_law 166 = .ok (.iadd, 1) := by decide +kernel
theorem d_L_law_167 : decode b_L_law 167 = .ok (.iaload, 1) := by decide +kernel
theorem d_L_law_168 : decode b_L_law 168 = .ok (.aload_n 0, 1) := by decide +kernel
theorem d_L_law_169 : decode b_L_law 169 = .ok (.iload_n 3, 1) := by decide +kernel
theorem d_L_law_170 : decode b_L_law 170 = .ok (.iconst 2, 1) := by decide +kernel
theorem d_L_law_171 : decode b_L_law 171 = .ok (.iadd, 1) := by decide +kernel
theorem d_L_law_172 : decode b_L_law 172 = .ok (.iaload, 1) := by decide +kernel
theorem d_L_law_173 : decode b_L_law 173 = .ok (.invokevirtual 25, 3) := by decide +kernel
theorem d_L_law_176 : decode b_L_law 176 = .ok (.if_icmp .eq 558, 3) := by decide +kernel
theorem d_L_law_179 : decode b_L_law 179 = .ok (.iconst 0, 1) := by decide +kernel
theorem d_L_law_180 : decode b_L_law 180 = .ok (.ireturn, 1) := by decide +kernel
theorem d_L_law_181 : decode b_L_law 181 = .ok (.aload_n 1, 1) := by decide +kernel
theorem d_L_law_182 : decode b_L_law 182 = .ok (.aload_n 0, 1) := by decide +kernel
theorem d_L_law_183 : decode b_L_law 183 = .ok (.iload_n 3, 1) := by decide +kernel
theorem d_L_law_184 : decode b_L_law 184 = .ok (.iconst 1, 1) := by decide +kernel
theorem d_L_law_185 : decode b_L_law 185 = .ok (.iadd, 1) := by decide +kernel
theorem d_L_law_186 : decode b_L_law 186 = .ok (.iaload, 1) := by decide +kernel
theorem d_L_law_187 : decode b_L_law 187 = .ok (.invokevirtual 26, 3) := by decide +kernel
theorem d_L_law_190 : decode b_L_law 190 = .ok (.aload_n 2, 1) := by decide +kernel
theorem d_L_law_191 : decode b_L_law 191 = .ok (.aload_n 0, 1) := by decide +kernel
theorem d_L_law_192 : decode b_L_law 192 = .ok (.iload_n 3, 1) := by decide +kernel
theorem d_L_law_193 : decode b_L_law 193 = .ok (.iconst 1, 1) := by decide +kernel
theorem d_L_law_194 : decode b_L_law 194 = .ok (.iadd, 1) := by decide +kernel
theorem d_L_law_195 : decode b_L_law 195 = .ok (.iaload, 1) := by decide +kernel
theorem d_L_law_196 : decode b_L_law 196 = .ok (.invokevirtual 30, 3) := by decide +kernel
theorem d_L_law_199 : decode b_L_law 199 = .ok (.if_icmp .eq 535, 3) := by decide +kernel
theorem d_L_law_202 : decode b_L_law 202 = .ok (.iconst 0, 1) := by decide +kernel
theorem d_L_law_203 : decode b_L_law 203 = .ok (.ireturn, 1) := by decide +kernel
theorem d_L_law_204 : decode b_L_law 204 = .ok (.aload_n 1, 1) := by decide +kernel
theorem d_L_law_205 : decode b_L_law 205 = .ok (.aload_n 0, 1) := by decide +kernel
theorem d_L_law_206 : decode b_L_law 206 = .ok (.iload_n 3, 1) := by decide +kernel
theorem d_L_law_207 : decode b_L_law 207 = .ok (.iconst 1, 1) := by decide +kernel
theorem d_L_law_208 : decode b_L_law 208 = .ok (.iadd, 1) := by decide +kernel
theorem d_L_law_209 : decode b_L_law 209 = .ok (.iaload, 1) := by decide +kernel
theorem d_L_law_210 : decode b_L_law 210 = .ok (.aload_n 0, 1) := by decide +kernel
theorem d_L_law_211 : decode b_L_law 211 = .ok (.iload_n 3, 1) := by decide +kernel
theorem d_L_law_212 : decode b_L_law 212 = .ok (.iconst 2, 1) := by decide +kernel
theorem d_L_law_213 : decode b_L_law 213 = .ok (.iadd, 1) := by decide +kernel
theorem d_L_law_214 : decode b_L_law 214 = .ok (.iaload, 1) := by decide +kernel
theorem d_L_law_215 : decode b_L_law 215 = .ok (.ifCond .eq 7, 3) := by decide +kernel
theorem d_L_law_218 : decode b_L_law 218 = .ok (.iconst 1, 1) := by decide +kernel
theorem d_L_law_219 : decode b_L_law 219 = .ok (.goto 4, 3) := by decide +kernel
theorem d_L_law_222 : decode b_L_law 222 = .ok (.iconst 0, 1) := by decide +kernel
theorem d_L_law_223 : decode b_L_law 223 = .ok (.invokevirtual 31, 3) := by decide +kernel
theorem d_L_law_226 : decode b_L_law 226 = .ok (.aload_n 2, 1) := by decide +kernel
theorem d_L_law_227 : decode b_L_law 227 = .ok (.aload_n 0, 1) := by decide +kernel
theorem d_L_law_228 : decode b_L_law 228 = .ok (.iload_n 3, 1) := by decide +kernel
theorem d_L_law_229 : decode b_L_law 229 = .ok (.iconst 1, 1) := by decide +kernel
theorem d_L_law_230 : decode b_L_law 230 = .ok (.iadd, 1) := by decide +kernel
theorem d_L_law_231 : decode b_L_law 231 = .ok (.iaload, 1) := by decide +kernel
theorem d_L_law_232 : decode b_L_law 232 = .ok (.aload_n 0, 1) := by decide +kernel
theorem d_L_law_233 : decode b_L_law 233 = .ok (.iload_n 3, 1) := by decide +kernel
theorem d_L_law_234 : decode b_L_law 234 = .ok (.iconst 2, 1) := by decide +kernel
theorem d_L_law_235 : decode b_L_law 235 = .ok (.iadd, 1) := by decide +kernel
theorem d_L_law_236 : decode b_L_law 236 = .ok (.iaload, 1) := by decide +kernel
theorem d_L_law_237 : decode b_L_law 237 = .ok (.ifCond .eq 7, 3) := by decide +kernel
theorem d_L_law_240 : decode b_L_law 240 = .ok (.iconst 1, 1) := by decide +kernel
theorem d_L_law_241 : decode b_L_law 241 = .ok (.goto 4, 3) := by decide +kernel
theorem d_L_law_244 : decode b_L_law 244 = .ok (.iconst 0, 1) := by decide +kernel
theorem d_L_law_245 : decode b_L_law 245 = .ok (.invokevirtual 35, 3) := by decide +kernel
theorem d_L_law_248 : decode b_L_law 248 = .ok (.if_icmp .eq 486, 3) := by decide +kernel
theorem d_L_law_251 : decode b_L_law 251 = .ok (.iconst 0, 1) := by decide +kernel
theorem d_L_law_252 : decode b_L_law 252 = .ok (.ireturn, 1) := by decide +kernel
theorem d_L_law_253 : decode b_L_law 253 = .ok (.aload_n 1, 1) := by decide +kernel
theorem d_L_law_254 : decode b_L_law 254 = .ok (.aload_n 0, 1) := by decide +kernel
theorem d_L_law_255 : decode b_L_law 255 = .ok (.iload_n 3, 1) := by decide +kernel
theorem d_L_law_256 : decode b_L_law 256 = .ok (.iconst 1, 1) := by decide +kernel
theorem d_L_law_257 : decode b_L_law 257 = .ok (.iadd, 1) := by decide +kernel
theorem d_L_law_258 : decode b_L_law 258 = .ok (.iaload, 1) := by decide +kernel
theorem d_L_law_259 : decode b_L_law 259 = .ok (.aload_n 0, 1) := by decide +kernel
theorem d_L_law_260 : decode b_L_law 260 = .ok (.iload_n 3, 1) := by decide +kernel
theorem d_L_law_261 : decode b_L_law 261 = .ok (.iconst 2, 1) := by decide +kernel
theorem d_L_law_262 : decode b_L_law 262 = .ok (.iadd, 1) := by decide +kernel
theorem d_L_law_263 : decode b_L_law 263 = .ok (.iaload, 1) := by decide +kernel
theorem d_L_law_264 : decode b_L_law 264 = .ok (.aload_n 0, 1) := by decide +kernel
theorem d_L_law_265 : decode b_L_law 265 = .ok (.iload_n 3, 1) := by decide +kernel
theorem d_L_law_266 : decode b_L_law 266 = .ok (.iconst 3, 1) := by decide +kernel
theorem d_L_law_267 : decode b_L_law 267 = .ok (.iadd, 1) := by decide +kernel
theorem d_L_law_268 : decode b_L_law 268 = .ok (.iaload, 1) := by decide +kernel
theorem d_L_law_269 : decode b_L_law 269 = .ok (.ifCond .eq 7, 3) := by decide +kernel
theorem d_L_law_272 : decode b_L_law 272 = .ok (.iconst 1, 1) := by decide +kernel
theorem d_L_law_273 : decode b_L_law 273 = .ok (.goto 4, 3) := by decide +kernel
theorem d_L_law_276 : decode b_L_law 276 = .ok (.iconst 0, 1) := by decide +kernel
theorem d_L_law_277 : decode b_L_law 277 = .ok (.invokevirtual 36, 3) := by decide +kernel
theorem d_L_law_280 : decode b_L_law 280 = .ok (.aload_n 2, 1) := by decide +kernel
theorem d_L_law_281 : decode b_L_law 281 = .ok (.aload_n 0, 1) := by decide +kernel
theorem d_L_law_282 : decode b_L_law 282 = .ok (.iload_n 3, 1) := by decide +kernel
theorem d_L_law_283 : decode b_L_law 283 = .ok (.iconst 1, 1) := by decide +kernel
theorem d_L_law_284 : decode b_L_law 284 = .ok (.iadd, 1) := by decide +kernel
theorem d_L_law_285 : decode b_L_law 285 = .ok (.iaload, 1) := by decide +kernel
theorem d_L_law_286 : decode b_L_law 286 = .ok (.aload_n 0, 1) := by decide +kernel
theorem d_L_law_287 : decode b_L_law 287 = .ok (.iload_n 3, 1) := by decide +kernel
theorem d_L_law_288 : decode b_L_law 288 = .ok (.iconst 2, 1) := by decide +kernel
theorem d_L_law_289 : decode b_L_law 289 = .ok (.iadd, 1) := by decide +kernel
theorem d_L_law_290 : decode b_L_law 290 = .ok (.iaload, 1) := by decide +kernel
theorem d_L_law_291 : decode b_L_law 291 = .ok (.aload_n 0, 1) := by decide +kernel
theorem d_L_law_292 : decode b_L_law 292 = .ok (.iload_n 3, 1) := by decide +kernel
theorem d_L_law_293 : decode b_L_law 293 = .ok (.iconst 3, 1) := by decide +kernel
theorem d_L_law_294 : decode b_L_law 294 = .ok (.iadd, 1) := by decide +kernel
theorem d_L_law_295 : decode b_L_law 295 = .ok (.iaload, 1) := by decide +kernel
theorem d_L_law_296 : decode b_L_law 296 = .ok (.ifCond .eq 7, 3) := by decide +kernel
theorem d_L_law_299 : decode b_L_law 299 = .ok (.iconst 1, 1) := by decide +kernel
theorem d_L_law_300 : decode b_L_law 300 = .ok (.goto 4, 3) := by decide +kernel
theorem d_L_law_303 : decode b_L_law 303 = .ok (.iconst 0, 1) := by decide +kernel
theorem d_L_law_304 : decode b_L_law 304 = .ok (.invokevirtual 40, 3) := by decide +kernel
theorem d_L_law_307 : decode b_L_law 307 = .ok (.if_icmp .eq 427, 3) := by decide +kernel
theorem d_L_law_310 : decode b_L_law 310 = .ok (.iconst 0, 1) := by decide +kernel
theorem d_L_law_311 : decode b_L_law 311 = .ok (.ireturn, 1) := by decide +kernel
theorem d_L_law_312 : decode b_L_law 312 = .ok (.aload_n 1, 1) := by decide +kernel
theorem d_L_law_313 : decode b_L_law 313 = .ok (.aload_n 0, 1) := by decide +kernel
theorem d_L_law_314 : decode b_L_law 314 = .ok (.iload_n 3, 1) := by decide +kernel
theorem d_L_law_315 : decode b_L_law 315 = .ok (.iconst 1, 1) := by decide +kernel
theorem d_L_law_316 : decode b_L_law 316 = .ok (.iadd, 1) := by decide +kernel
theorem d_L_law_317 : decode b_L_law 317 = .ok (.iaload, 1) := by decide +kernel
theorem d_L_law_318 : decode b_L_law 318 = .ok (.aload_n 0, 1) := by decide +kernel
theorem d_L_law_319 : decode b_L_law 319 = .ok (.iload_n 3, 1) := by decide +kernel
theorem d_L_law_320 : decode b_L_law 320 = .ok (.iconst 2, 1) := by decide +kernel
theorem d_L_law_321 : decode b_L_law 321 = .ok (.iadd, 1) := by decide +kernel
theorem d_L_law_322 : decode b_L_law 322 = .ok (.iaload, 1) := by decide +kernel
theorem d_L_law_323 : decode b_L_law 323 = .ok (.aload_n 0, 1) := by decide +kernel
theorem d_L_law_324 : decode b_L_law 324 = .ok (.iload_n 3, 1) := by decide +kernel
theorem d_L_law_325 : decode b_L_law 325 = .ok (.iconst 3, 1) := by decide +kernel
theorem d_L_law_326 : decode b_L_law 326 = .ok (.iadd, 1) := by decide +kernel
theorem d_L_law_327 : decode b_L_law 327 = .ok (.iaload, 1) := by decide +kernel
theorem d_L_law_328 : decode b_L_law 328 = .ok (.aload_n 0, 1) := by decide +kernel
theorem d_L_law_329 : decode b_L_law 329 = .ok (.iload_n 3, 1) := by decide +kernel
theorem d_L_law_330 : decode b_L_law 330 = .ok (.iconst 4, 1) := by decide +kernel
theorem d_L_law_331 : decode b_L_law 331 = .ok (.iadd, 1) := by decide +kernel
theorem d_L_law_332 : decode b_L_law 332 = .ok (.iaload, 1) := by decide +kernel
theorem d_L_law_333 : decode b_L_law 333 = .ok (.invokevirtual 41, 3) := by decide +kernel
theorem d_L_law_336 : decode b_L_law 336 = .ok (.aload_n 2, 1) := by decide +kernel
theorem d_L_law_337 : decode b_L_law 337 = .ok (.aload_n 0, 1) := by decide +kernel
theorem d_L_law_338 : decode b_L_law 338 = .ok (.iload_n 3, 1) := by decide +kernel
theorem d_L_law_339 : decode b_L_law 339 = .ok (.iconst 1, 1) := by decide +kernel
theorem d_L_law_340 : decode b_L_law 340 = .ok (.iadd, 1) := by decide +kernel
theorem d_L_law_341 : decode b_L_law 341 = .ok (.iaload, 1) := by decide +kernel
theorem d_L_law_342 : decode b_L_law 342 = .ok (.aload_n 0, 1) := by decide +kernel
theorem d_L_law_343 : decode b_L_law 343 = .ok (.iload_n 3, 1) := by decide +kernel
theorem d_L_law_344 : decode b_L_law 344 = .ok (.iconst 2, 1) := by decide +kernel
theorem d_L_law_345 : decode b_L_law 345 = .ok (.iadd, 1) := by decide +kernel
theorem d_L_law_346 : decode b_L_law 346 = .ok (.iaload, 1) := by decide +kernel
theorem d_L_law_347 : decode b_L_law 347 = .ok (.aload_n 0, 1) := by decide +kernel
theorem d_L_law_348 : decode b_L_law 348 = .ok (.iload_n 3, 1) := by decide +kernel
theorem d_L_law_349 : decode b_L_law 349 = .ok (.iconst 3, 1) := by decide +kernel
theorem d_L_law_350 : decode b_L_law 350 = .ok (.iadd, 1) := by decide +kernel
theorem d_L_law_351 : decode b_L_law 351 = .ok (.iaload, 1) := by decide +kernel
theorem d_L_law_352 : decode b_L_law 352 = .ok (.aload_n 0, 1) := by decide +kernel
theorem d_L_law_353 : decode b_L_law 353 = .ok (.iload_n 3, 1) := by decide +kernel
theorem d_L_law_354 : decode b_L_law 354 = .ok (.iconst 4, 1) := by decide +kernel
theorem d_L_law_355 : decode b_L_law 355 = .ok (.iadd, 1) := by decide +kernel
theorem d_L_law_356 : decode b_L_law 356 = .ok (.iaload, 1) := by decide +kernel
theorem d_L_law_357 : decode b_L_law 357 = .ok (.invokevirtual 45, 3) := by decide +kernel
theorem d_L_law_360 : decode b_L_law 360 = .ok (.if_icmp .eq 374, 3) := by decide +kernel
theorem d_L_law_363 : decode b_L_law 363 = .ok (.iconst 0, 1) := by decide +kernel
theorem d_L_law_364 : decode b_L_law 364 = .ok (.ireturn, 1) := by decide +kernel
theorem d_L_law_365 : decode b_L_law 365 = .ok (.aload_n 1, 1) := by decide +kernel
theorem d_L_law_366 : decode b_L_law 366 = .ok (.aload_n 0, 1) := by decide +kernel
theorem d_L_law_367 : decode b_L_law 367 = .ok (.iload_n 3, 1) := by decide +kernel
theorem d_L_law_368 : decode b_L_law 368 = .ok (.iconst 1, 1) := by decide +kernel
theorem d_L_law_369 : decode b_L_law 369 = .ok (.iadd, 1) := by decide +kernel
theorem d_L_law_370 : decode b_L_law 370 = .ok (.iaload, 1) := by decide +kernel
theorem d_L_law_371 : decode b_L_law 371 = .ok (.aload_n 0, 1) := by decide +kernel
theorem d_L_law_372 : decode b_L_law 372 = .ok (.iload_n 3, 1) := by decide +kernel
theorem d_L_law_373 : decode b_L_law 373 = .ok (.iconst 2, 1) := by decide +kernel
theorem d_L_law_374 : decode b_L_law 374 = .ok (.iadd, 1) := by decide +kernel
theorem d_L_law_375 : decode b_L_law 375 = .ok (.iaload, 1) := by decide +kernel
theorem d_L_law_376 : decode b_L_law 376 = .ok (.aload_n 0, 1) := by decide +kernel
theorem d_L_law_377 : decode b_L_law 377 = .ok (.iload_n 3, 1) := by decide +kernel
theorem d_L_law_378 : decode b_L_law 378 = .ok (.iconst 3, 1) := by decide +kernel
theorem d_L_law_379 : decode b_L_law 379 = .ok (.iadd, 1) := by decide +kernel
theorem d_L_law_380 : decode b_L_law 380 = .ok (.iaload, 1) := by decide +kernel
theorem d_L_law_381 : decode b_L_law 381 = .ok (.invokevirtual 46, 3) := by decide +kernel
theorem d_L_law_384 : decode b_L_law 384 = .ok (.aload_n 2, 1) := by decide +kernel
theorem d_L_law_385 : decode b_L_law 385 = .ok (.aload_n 0, 1) := by decide +kernel
theorem d_L_law_386 : decode b_L_law 386 = .ok (.iload_n 3, 1) := by decide +kernel
theorem d_L_law_387 : decode b_L_law 387 = .ok (.iconst 1, 1) := by decide +kernel
theorem d_L_law_388 : decode b_L_law 388 = .ok (.iadd, 1) := by decide +kernel
theorem d_L_law_389 : decode b_L_law 389 = .ok (.iaload, 1) := by decide +kernel
theorem d_L_law_390 : decode b_L_law 390 = .ok (.aload_n 0, 1) := by decide +kernel
theorem d_L_law_391 : decode b_L_law 391 = .ok (.iload_n 3, 1) := by decide +kernel
theorem d_L_law_392 : decode b_L_law 392 = .ok (.iconst 2, 1) := by decide +kernel
theorem d_L_law_393 : decode b_L_law 393 = .ok (.iadd, 1) := by decide +kernel
theorem d_L_law_394 : decode b_L_law 394 = .ok (.iaload, 1) := by decide +kernel
theorem d_L_law_395 : decode b_L_law 395 = .ok (.aload_n 0, 1) := by decide +kernel
theorem d_L_law_396 : decode b_L_law 396 = .ok (.iload_n 3, 1) := by decide +kernel
theorem d_L_law_397 : decode b_L_law 397 = .ok (.iconst 3, 1) := by decide +kernel
theorem d_L_law_398 : decode b_L_law 398 = .ok (.iadd, 1) := by decide +kernel
theorem d_L_law_399 : decode b_L_law 399 = .ok (.iaload, 1) := by decide +kernel
theorem d_L_law_400 : decode b_L_law 400 = .ok (.invokevirtual 50, 3) := by decide +kernel
theorem d_L_law_403 : decode b_L_law 403 = .ok (.if_icmp .eq 331, 3) := by decide +kernel
theorem d_L_law_406 : decode b_L_law 406 = .ok (.iconst 0, 1) := by decide +kernel
theorem d_L_law_407 : decode b_L_law 407 = .ok (.ireturn, 1) := by decide +kernel
theorem d_L_law_408 : decode b_L_law 408 = .ok (.aload_n 1, 1) := by decide +kernel
theorem d_L_law_409 : decode b_L_law 409 = .ok (.aload_n 0, 1) := by decide +kernel
theorem d_L_law_410 : decode b_L_law 410 = .ok (.iload_n 3, 1) := by decide +kernel
theorem d_L_law_411 : decode b_L_law 411 = .ok (.iconst 1, 1) := by decide +kernel
theorem d_L_law_412 : decode b_L_law 412 = .ok (.iadd, 1) := by decide +kernel
theorem d_L_law_413 : decode b_L_law 413 = .ok (.iaload, 1) := by decide +kernel
theorem d_L_law_414 : decode b_L_law 414 = .ok (.invokevirtual 51, 3) := by decide +kernel
theorem d_L_law_417 : decode b_L_law 417 = .ok (.aload_n 2, 1) := by decide +kernel
theorem d_L_law_418 : decode b_L_law 418 = .ok (.aload_n 0, 1) := by decide +kernel
theorem d_L_law_419 : decode b_L_law 419 = .ok (.iload_n 3, 1) := by decide +kernel
theorem d_L_law_420 : decode b_L_law 420 = .ok (.iconst 1, 1) := by decide +kernel
theorem d_L_law_421 : decode b_L_law 421 = .ok (.iadd, 1) := by decide +kernel
theorem d_L_law_422 : decode b_L_law 422 = .ok (.iaload, 1) := by decide +kernel
theorem d_L_law_423 : decode b_L_law 423 = .ok (.invokevirtual 55, 3) := by decide +kernel
theorem d_L_law_426 : decode b_L_law 426 = .ok (.if_icmp .eq 308, 3) := by decide +kernel
theorem d_L_law_429 : decode b_L_law 429 = .ok (.iconst 0, 1) := by decide +kernel
theorem d_L_law_430 : decode b_L_law 430 = .ok (.ireturn, 1) := by decide +kernel
theorem d_L_law_431 : decode b_L_law 431 = .ok (.aload_n 1, 1) := by decide +kernel
theorem d_L_law_432 : decode b_L_law 432 = .ok (.invokevirtual 56, 3) := by decide +kernel
theorem d_L_law_435 : decode b_L_law 435 = .ok (.aload_n 2, 1) := by decide +kernel
theorem d_L_law_436 : decode b_L_law 436 = .ok (.invokevirtual 60, 3) := by decide +kernel
theorem d_L_law_439 : decode b_L_law 439 = .ok (.if_icmp .eq 295, 3) := by decide +kernel
theorem d_L_law_442 : decode b_L_law 442 = .ok (.iconst 0, 1) := by decide +kernel
theorem d_L_law_443 : decode b_L_law 443 = .ok (.ireturn, 1) := by decide +kernel
theorem d_L_law_444 : decode b_L_law 444 = .ok (.aload_n 1, 1) := by decide +kernel
theorem d_L_law_445 : decode b_L_law 445 = .ok (.aload_n 0, 1) := by decide +kernel
theorem d_L_law_446 : decode b_L_law 446 = .ok (.iload_n 3, 1) := by decide +kernel
theorem d_L_law_447 : decode b_L_law 447 = .ok (.iconst 1, 1) := by decide +kernel
theorem d_L_law_448 : decode b_L_law 448 = .ok (.iadd, 1) := by decide +kernel
theorem d_L_law_449 : decode b_L_law 449 = .ok (.iaload, 1) := by decide +kernel
theorem d_L_law_450 : decode b_L_law 450 = .ok (.invokevirtual 61, 3) := by decide +kernel
theorem d_L_law_453 : decode b_L_law 453 = .ok (.aload_n 2, 1) := by decide +kernel
theorem d_L_law_454 : decode b_L_law 454 = .ok (.aload_n 0, 1) := by decide +kernel
theorem d_L_law_455 : decode b_L_law 455 = .ok (.iload_n 3, 1) := by decide +kernel
theorem d_L_law_456 : decode b_L_law 456 = .ok (.iconst 1, 1) := by decide +kernel
theorem d_L_law_457 : decode b_L_law 457 = .ok (.iadd, 1) := by decide +kernel
theorem d_L_law_458 : decode b_L_law 458 = .ok (.iaload, 1) := by decide +kernel
theorem d_L_law_459 : decode b_L_law 459 = .ok (.invokevirtual 64, 3) := by decide +kernel
theorem d_L_law_462 : decode b_L_law 462 = .ok (.if_icmp .eq 272, 3) := by decide +kernel
theorem d_L_law_465 : decode b_L_law 465 = .ok (.iconst 0, 1) := by decide +kernel
theorem d_L_law_466 : decode b_L_law 466 = .ok (.ireturn, 1) := by decide +kernel
theorem d_L_law_467 : decode b_L_law 467 = .ok (.aload_n 1, 1) := by decide +kernel
theorem d_L_law_468 : decode b_L_law 468 = .ok (.aload_n 0, 1) := by decide +kernel
theorem d_L_law_469 : decode b_L_law 469 = .ok (.iload_n 3, 1) := by decide +kernel
theorem d_L_law_470 : decode b_L_law 470 = .ok (.iconst 1, 1) := by decide +kernel
theorem d_L_law_471 : decode b_L_law 471 = .ok (.iadd, 1) := by decide +kernel
theorem d_L_law_472 : decode b_L_law 472 = .ok (.iaload, 1) := by decide +kernel
theorem d_L_law_473 : decode b_L_law 473 = .ok (.aload_n 0, 1) := by decide +kernel
theorem d_L_law_474 : decode b_L_law 474 = .ok (.iload_n 3, 1) := by decide +kernel
theorem d_L_law_475 : decode b_L_law 475 = .ok (.iconst 2, 1) := by decide +kernel
theorem d_L_law_476 : decode b_L_law 476 = .ok (.iadd, 1) := by decide +kernel
theorem d_L_law_477 : decode b_L_law 477 = .ok (.iaload, 1) := by decide +kernel
theorem d_L_law_478 : decode b_L_law 478 = .ok (.invokevirtual 65, 3) := by decide +kernel
theorem d_L_law_481 : decode b_L_law 481 = .ok (.aload_n 2, 1) := by decide +kernel
theorem d_L_law_482 : decode b_L_law 482 = .ok (.aload_n 0, 1) := by decide +kernel
theorem d_L_law_483 : decode b_L_law 483 = .ok (.iload_n 3, 1) := by decide +kernel
theorem d_L_law_484 : decode b_L_law 484 = .ok (.iconst 1, 1) := by decide +kernel
theorem d_L_law_485 : decode b_L_law 485 = .ok (.iadd, 1) := by decide +kernel
theorem d_L_law_486 : decode b_L_law 486 = .ok (.iaload, 1) := by decide +kernel
theorem d_L_law_487 : decode b_L_law 487 = .ok (.aload_n 0, 1) := by decide +kernel
theorem d_L_law_488 : decode b_L_law 488 = .ok (.iload_n 3, 1) := by decide +kernel
theorem d_L_law_489 : decode b_L_law 489 = .ok (.iconst 2, 1) := by decide +kernel
theorem d_L_law_490 : decode b_L_law 490 = .ok (.iadd, 1) := by decide +kernel
theorem d_L_law_491 : decode b_L_law 491 = .ok (.iaload, 1) := by decide +kernel
theorem d_L_law_492 : decode b_L_law 492 = .ok (.invokevirtual 69, 3) := by decide +kernel
theorem d_L_law_495 : decode b_L_law 495 = .ok (.if_icmp .eq 239, 3) := by decide +kernel
theorem d_L_law_498 : decode b_L_law 498 = .ok (.iconst 0, 1) := by decide +kernel
theorem d_L_law_499 : decode b_L_law 499 = .ok (.ireturn, 1) := by decide +kernel
theorem d_L_law_500 : decode b_L_law 500 = .ok (.aload_n 1, 1) := by decide +kernel
theorem d_L_law_501 : decode b_L_law 501 = .ok (.aload_n 0, 1) := by decide +kernel
theorem d_L_law_502 : decode b_L_law 502 = .ok (.iload_n 3, 1) := by decide +kernel
theorem d_L_law_503 : decode b_L_law 503 = .ok (.iconst 1, 1) := by decide +kernel
theorem d_L_law_504 : decode b_L_law 504 = .ok (.iadd, 1) := by decide +kernel
theorem d_L_law_505 : decode b_L_law 505 = .ok (.iaload, 1) := by decide +kernel
theorem d_L_law_506 : decode b_L_law 506 = .ok (.aload_n 0, 1) := by decide +kernel
theorem d_L_law_507 : decode b_L_law 507 = .ok (.iload_n 3, 1) := by decide +kernel
theorem d_L_law_508 : decode b_L_law 508 = .ok (.iconst 2, 1) := by decide +kernel
theorem d_L_law_509 : decode b_L_law 509 = .ok (.iadd, 1) := by decide +kernel
theorem d_L_law_510 : decode b_L_law 510 = .ok (.iaload, 1) := by decide +kernel
theorem d_L_law_511 : decode b_L_law 511 = .ok (.invokevirtual 70, 3) := by decide +kernel
theorem d_L_law_514 : decode b_L_law 514 = .ok (.aload_n 2, 1) := by decide +kernel
theorem d_L_law_515 : decode b_L_law 515 = .ok (.aload_n 0, 1) := by decide +kernel
theorem d_L_law_516 : decode b_L_law 516 = .ok (.iload_n 3, 1) := by decide +kernel
theorem d_L_law_517 : decode b_L_law 517 = .ok (.iconst 1, 1) := by decide +kernel
theorem d_L_law_518 : decode b_L_law 518 = .ok (.iadd, 1) := by decide +kernel
theorem d_L_law_519 : decode b_L_law 519 = .ok (.iaload, 1) := by decide +kernel
theorem d_L_law_520 : decode b_L_law 520 = .ok (.aload_n 0, 1) := by decide +kernel
theorem d_L_law_521 : decode b_L_law 521 = .ok (.iload_n 3, 1) := by decide +kernel
theorem d_L_law_522 : decode b_L_law 522 = .ok (.iconst 2, 1) := by decide +kernel
theorem d_L_law_523 : decode b_L_law 523 = .ok (.iadd, 1) := by decide +kernel
theorem d_L_law_524 : decode b_L_law 524 = .ok (.iaload, 1) := by decide +kernel
theorem d_L_law_525 : decode b_L_law 525 = .ok (.invokevirtual 73, 3) := by decide +kernel
theorem d_L_law_528 : decode b_L_law 528 = .ok (.if_icmp .eq 206, 3) := by decide +kernel
theorem d_L_law_531 : decode b_L_law 531 = .ok (.iconst 0, 1) := by decide +kernel
theorem d_L_law_532 : decode b_L_law 532 = .ok (.ireturn, 1) := by decide +kernel
theorem d_L_law_533 : decode b_L_law 533 = .ok (.aload_n 1, 1) := by decide +kernel
theorem d_L_law_534 : decode b_L_law 534 = .ok (.aload_n 0, 1) := by decide +kernel
theorem d_L_law_535 : decode b_L_law 535 = .ok (.iload_n 3, 1) := by decide +kernel
theorem d_L_law_536 : decode b_L_law 536 = .ok (.iconst 1, 1) := by decide +kernel
theorem d_L_law_537 : decode b_L_law 537 = .ok (.iadd, 1) := by decide +kernel
theorem d_L_law_538 : decode b_L_law 538 = .ok (.iaload, 1) := by decide +kernel
theorem d_L_law_539 : decode b_L_law 539 = .ok (.aload_n 0, 1) := by decide +kernel
theorem d_L_law_540 : decode b_L_law 540 = .ok (.iload_n 3, 1) := by decide +kernel
theorem d_L_law_541 : decode b_L_law 541 = .ok (.iconst 2, 1) := by decide +kernel
theorem d_L_law_542 : decode b_L_law 542 = .ok (.iadd, 1) := by decide +kernel
theorem d_L_law_543 : decode b_L_law 543 = .ok (.iaload, 1) := by decide +kernel
theorem d_L_law_544 : decode b_L_law 544 = .ok (.invokevirtual 74, 3) := by decide +kernel
theorem d_L_law_547 : decode b_L_law 547 = .ok (.aload_n 2, 1) := by decide +kernel
theorem d_L_law_548 : decode b_L_law 548 = .ok (.aload_n 0, 1) := by decide +kernel
theorem d_L_law_549 : decode b_L_law 549 = .ok (.iload_n 3, 1) := by decide +kernel
theorem d_L_law_550 : decode b_L_law 550 = .ok (.iconst 1, 1) := by decide +kernel
theorem d_L_law_551 : decode b_L_law 551 = .ok (.iadd, 1) := by decide +kernel
theorem d_L_law_552 : decode b_L_law 552 = .ok (.iaload, 1) := by decide +kernel
theorem d_L_law_553 : decode b_L_law 553 = .ok (.aload_n 0, 1) := by decide +kernel
theorem d_L_law_554 : decode b_L_law 554 = .ok (.iload_n 3, 1) := by decide +kernel
theorem d_L_law_555 : decode b_L_law 555 = .ok (.iconst 2, 1) := by decide +kernel
theorem d_L_law_556 : decode b_L_law 556 = .ok (.iadd, 1) := by decide +kernel
theorem d_L_law_557 : decode b_L_law 557 = .ok (.iaload, 1) := by decide +kernel
theorem d_L_law_558 : decode b_L_law 558 = .ok (.invokevirtual 77, 3) := by decide +kernel
theorem d_L_law_561 : decode b_L_law 561 = .ok (.if_icmp .eq 173, 3) := by decide +kernel
theorem d_L_law_564 : decode b_L_law 564 = .ok (.iconst 0, 1) := by decide +kernel
theorem d_L_law_565 : decode b_L_law 565 = .ok (.ireturn, 1) := by decide +kernel
theorem d_L_law_566 : decode b_L_law 566 = .ok (.aload_n 1, 1) := by decide +kernel
theorem d_L_law_567 : decode b_L_law 567 = .ok (.aload_n 0, 1) := by decide +kernel
theorem d_L_law_568 : decode b_L_law 568 = .ok (.iload_n 3, 1) := by decide +kernel
theorem d_L_law_569 : decode b_L_law 569 = .ok (.iconst 1, 1) := by decide +kernel
theorem d_L_law_570 : decode b_L_law 570 = .ok (.iadd, 1) := by decide +kernel
theorem d_L_law_571 : decode b_L_law 571 = .ok (.iaload, 1) := by decide +kernel
theorem d_L_law_572 : decode b_L_law 572 = .ok (.aload_n 0, 1) := by decide +kernel
theorem d_L_law_573 : decode b_L_law 573 = .ok (.iload_n 3, 1) := by decide +kernel
theorem d_L_law_574 : decode b_L_law 574 = .ok (.iconst 2, 1) := by decide +kernel
theorem d_L_law_575 : decode b_L_law 575 = .ok (.iadd, 1) := by decide +kernel
theorem d_L_law_576 : decode b_L_law 576 = .ok (.iaload, 1) := by decide +kernel
theorem d_L_law_577 : decode b_L_law 577 = .ok (.invokevirtual 78, 3) := by decide +kernel
theorem d_L_law_580 : decode b_L_law 580 = .ok (.aload_n 2, 1) := by decide +kernel
theorem d_L_law_581 : decode b_L_law 581 = .ok (.aload_n 0, 1) := by decide +kernel
theorem d_L_law_582 : decode b_L_law 582 = .ok (.iload_n 3, 1) := by decide +kernel
theorem d_L_law_583 : decode b_L_law 583 = .ok (.iconst 1, 1) := by decide +kernel
theorem d_L_law_584 : decode b_L_law 584 = .ok (.iadd, 1) := by decide +kernel
theorem d_L_law_585 : decode b_L_law 585 = .ok (.iaload, 1) := by decide +kernel
theorem d_L_law_586 : decode b_L_law 586 = .ok (.aload_n 0, 1) := by decide +kernel
theorem d_L_law_587 : decode b_L_law 587 = .ok (.iload_n 3, 1) := by decide +kernel
theorem d_L_law_588 : decode b_L_law 588 = .ok (.iconst 2, 1) := by decide +kernel
theorem d_L_law_589 : decode b_L_law 589 = .ok (.iadd, 1) := by decide +kernel
theorem d_L_law_590 : decode b_L_law 590 = .ok (.iaload, 1) := by decide +kernel
theorem d_L_law_591 : decode b_L_law 591 = .ok (.invokevirtual 81, 3) := by decide +kernel
theorem d_L_law_594 : decode b_L_law 594 = .ok (.if_icmp .eq 140, 3) := by decide +kernel
theorem d_L_law_597 : decode b_L_law 597 = .ok (.iconst 0, 1) := by decide +kernel
theorem d_L_law_598 : decode b_L_law 598 = .ok (.ireturn, 1) := by decide +kernel
theorem d_L_law_599 : decode b_L_law 599 = .ok (.aload_n 1, 1) := by decide +kernel
theorem d_L_law_600 : decode b_L_law 600 = .ok (.aload_n 0, 1) := by decide +kernel
theorem d_L_law_601 : decode b_L_law 601 = .ok (.iload_n 3, 1) := by decide +kernel
theorem d_L_law_602 : decode b_L_law 602 = .ok (.iconst 1, 1) := by decide +kernel
theorem d_L_law_603 : decode b_L_law 603 = .ok (.iadd, 1) := by decide +kernel
theorem d_L_law_604 : decode b_L_law 604 = .ok (.iaload, 1) := by decide +kernel
theorem d_L_law_605 : decode b_L_law 605 = .ok (.aload_n 0, 1) := by decide +kernel
theorem d_L_law_606 : decode b_L_law 606 = .ok (.iload_n 3, 1) := by decide +kernel
theorem d_L_law_607 : decode b_L_law 607 = .ok (.iconst 2, 1) := by decide +kernel
theorem d_L_law_608 : decode b_L_law 608 = .ok (.iadd, 1) := by decide +kernel
theorem d_L_law_609 : decode b_L_law 609 = .ok (.iaload, 1) := by decide +kernel
theorem d_L_law_610 : decode b_L_law 610 = .ok (.invokevirtual 82, 3) := by decide +kernel
theorem d_L_law_613 : decode b_L_law 613 = .ok (.aload_n 2, 1) := by decide +kernel
theorem d_L_law_614 : decode b_L_law 614 = .ok (.aload_n 0, 1) := by decide +kernel
theorem d_L_law_615 : decode b_L_law 615 = .ok (.iload_n 3, 1) := by decide +kernel
theorem d_L_law_616 : decode b_L_law 616 = .ok (.iconst 1, 1) := by decide +kernel
theorem d_L_law_617 : decode b_L_law 617 = .ok (.iadd, 1) := by decide +kernel
theorem d_L_law_618 : decode b_L_law 618 = .ok (.iaload, 1) := by decide +kernel
theorem d_L_law_619 : decode b_L_law 619 = .ok (.aload_n 0, 1) := by decide +kernel
theorem d_L_law_620 : decode b_L_law 620 = .ok (.iload_n 3, 1) := by decide +kernel
theorem d_L_law_621 : decode b_L_law 621 = .ok (.iconst 2, 1) := by decide +kernel
theorem d_L_law_622 : decode b_L_law 622 = .ok (.iadd, 1) := by decide +kernel
theorem d_L_law_623 : decode b_L_law 623 = .ok (.iaload, 1) := by decide +kernel
theorem d_L_law_624 : decode b_L_law 624 = .ok (.invokevirtual 85, 3) := by decide +kernel
theorem d_L_law_627 : decode b_L_law 627 = .ok (.if_icmp .eq 107, 3) := by decide +kernel
theorem d_L_law_630 : decode b_L_law 630 = .ok (.iconst 0, 1) := by decide +kernel
theorem d_L_law_631 : decode b_L_law 631 = .ok (.ireturn, 1) := by decide +kernel
theorem d_L_law_632 : decode b_L_law 632 = .ok (.aload_n 1, 1) := by decide +kernel
theorem d_L_law_633 : decode b_L_law 633 = .ok (.aload_n 0, 1) := by decide +kernel
theorem d_L_law_634 : decode b_L_law 634 = .ok (.iload_n 3, 1) := by decide +kernel
theorem d_L_law_635 : decode b_L_law 635 = .ok (.iconst 1, 1) := by decide +kernel
theorem d_L_law_636 : decode b_L_law 636 = .ok (.iadd, 1) := by decide +kernel
theorem d_L_law_637 : decode b_L_law 637 = .ok (.iaload, 1) := by decide +kernel
theorem d_L_law_638 : decode b_L_law 638 = .ok (.invokevirtual 86, 3) := by decide +kernel
theorem d_L_law_641 : decode b_L_law 641 = .ok (.aload_n 2, 1) := by decide +kernel
theorem d_L_law_642 : decode b_L_law 642 = .ok (.aload_n 0, 1) := by decide +kernel
theorem d_L_law_643 : decode b_L_law 643 = .ok (.iload_n 3, 1) := by decide +kernel
theorem d_L_law_644 : decode b_L_law 644 = .ok (.iconst 1, 1) := by decide +kernel
theorem d_L_law_645 : decode b_L_law 645 = .ok (.iadd, 1) := by decide +kernel
theorem d_L_law_646 : decode b_L_law 646 = .ok (.iaload, 1) := by decide +kernel
theorem d_L_law_647 : decode b_L_law 647 = .ok (.invokevirtual 89, 3) := by decide +kernel
theorem d_L_law_650 : decode b_L_law 650 = .ok (.if_icmp .eq 84, 3) := by decide +kernel
theorem d_L_law_653 : decode b_L_law 653 = .ok (.iconst 0, 1) := by decide +kernel
end
section
theorem d_L_law_654 : decode b_L_law 654 = .ok (.ireturn, 1) := by decide +kernel
theorem d_L_law_655 : decode b_L_law 655 = .ok (.aload_n 1, 1) := by decide +kernel
theorem d_L_law_656 : decode b_L_law 656 = .ok (.invokevirtual 90, 3) := by decide +kernel
theorem d_L_law_659 : decode b_L_law 659 = .ok (.aload_n 2, 1) := by decide +kernel
theorem d_L_law_660 : decode b_L_law 660 = .ok (.invokevirtual 93, 3) := by decide +kernel
theorem d_L_law_663 : decode b_L_law 663 = .ok (.if_icmp .eq 71, 3) := by decide +kernel
theorem d_L_law_666 : decode b_L_law 666 = .ok (.iconst 0, 1) := by decide +kernel
theorem d_L_law_667 : decode b_L_law 667 = .ok (.ireturn, 1) := by decide +kernel
theorem d_L_law_668 : decode b_L_law 668 = .ok (.aload_n 1, 1) := by decide +kernel
theorem d_L_law_669 : decode b_L_law 669 = .ok (.aload_n 0, 1) := by decide +kernel
theorem d_L_law_670 : decode b_L_law 670 = .ok (.iload_n 3, 1) := by decide +kernel
theorem d_L_law_671 : decode b_L_law 671 = .ok (.iconst 1, 1) := by decide +kernel
theorem d_L_law_672 : decode b_L_law 672 = .ok (.iadd, 1) := by decide +kernel
theorem d_L_law_673 : decode b_L_law 673 = .ok (.iaload, 1) := by decide +kernel
theorem d_L_law_674 : decode b_L_law 674 = .ok (.aload_n 0, 1) := by decide +kernel
theorem d_L_law_675 : decode b_L_law 675 = .ok (.iload_n 3, 1) := by decide +kernel
theorem d_L_law_676 : decode b_L_law 676 = .ok (.iconst 2, 1) := by decide +kernel
theorem d_L_law_677 : decode b_L_law 677 = .ok (.iadd, 1) := by decide +kernel
theorem d_L_law_678 : decode b_L_law 678 = .ok (.iaload, 1) := by decide +kernel
theorem d_L_law_679 : decode b_L_law 679 = .ok (.invokevirtual 94, 3) := by decide +kernel
theorem d_L_law_682 : decode b_L_law 682 = .ok (.aload_n 2, 1) := by decide +kernel
theorem d_L_law_683 : decode b_L_law 683 = .ok (.aload_n 0, 1) := by decide +kernel
theorem d_L_law_684 : decode b_L_law 684 = .ok (.iload_n 3, 1) := by decide +kernel
theorem d_L_law_685 : decode b_L_law 685 = .ok (.iconst 1, 1) := by decide +kernel
theorem d_L_law_686 : decode b_L_law 686 = .ok (.iadd, 1) := by decide +kernel
theorem d_L_law_687 : decode b_L_law 687 = .ok (.iaload, 1) := by decide +kernel
theorem d_L_law_688 : decode b_L_law 688 = .ok (.aload_n 0, 1) := by decide +kernel
theorem d_L_law_689 : decode b_L_law 689 = .ok (.iload_n 3, 1) := by decide +kernel
theorem d_L_law_690 : decode b_L_law 690 = .ok (.iconst 2, 1) := by decide +kernel
theorem d_L_law_691 : decode b_L_law 691 = .ok (.iadd, 1) := by decide +kernel
theorem d_L_law_692 : decode b_L_law 692 = .ok (.iaload, 1) := by decide +kernel
theorem d_L_law_693 : decode b_L_law 693 = .ok (.invokevirtual 97, 3) := by decide +kernel
theorem d_L_law_696 : decode b_L_law 696 = .ok (.if_icmp .eq 38, 3) := by decide +kernel
theorem d_L_law_699 : decode b_L_law 699 = .ok (.iconst 0, 1) := by decide +kernel
theorem d_L_law_700 : decode b_L_law 700 = .ok (.ireturn, 1) := by decide +kernel
theorem d_L_law_701 : decode b_L_law 701 = .ok (.aload_n 1, 1) := by decide +kernel
theorem d_L_law_702 : decode b_L_law 702 = .ok (.aload_n 0, 1) := by decide +kernel
theorem d_L_law_703 : decode b_L_law 703 = .ok (.iload_n 3, 1) := by decide +kernel
theorem d_L_law_704 : decode b_L_law 704 = .ok (.iconst 1, 1) := by decide +kernel
theorem d_L_law_705 : decode b_L_law 705 = .ok (.iadd, 1) := by decide +kernel
theorem d_L_law_706 : decode b_L_law 706 = .ok (.iaload, 1) := by decide +kernel
theorem d_L_law_707 : decode b_L_law 707 = .ok (.aload_n 0, 1) := by decide +kernel
theorem d_L_law_708 : decode b_L_law 708 = .ok (.iload_n 3, 1) := by decide +kernel
theorem d_L_law_709 : decode b_L_law 709 = .ok (.iconst 2, 1) := by decide +kernel
theorem d_L_law_710 : decode b_L_law 710 = .ok (.iadd, 1) := by decide +kernel
theorem d_L_law_711 : decode b_L_law 711 = .ok (.iaload, 1) := by decide +kernel
theorem d_L_law_712 : decode b_L_law 712 = .ok (.invokevirtual 98, 3) := by decide +kernel
theorem d_L_law_715 : decode b_L_law 715 = .ok (.aload_n 2, 1) := by decide +kernel
theorem d_L_law_716 : decode b_L_law 716 = .ok (.aload_n 0, 1) := by decide +kernel
theorem d_L_law_717 : decode b_L_law 717 = .ok (.iload_n 3, 1) := by decide +kernel
theorem d_L_law_718 : decode b_L_law 718 = .ok (.iconst 1, 1) := by decide +kernel
theorem d_L_law_719 : decode b_L_law 719 = .ok (.iadd, 1) := by decide +kernel
theorem d_L_law_720 : decode b_L_law 720 = .ok (.iaload, 1) := by decide +kernel
theorem d_L_law_721 : decode b_L_law 721 = .ok (.aload_n 0, 1) := by decide +kernel
theorem d_L_law_722 : decode b_L_law 722 = .ok (.iload_n 3, 1) := by decide +kernel
theorem d_L_law_723 : decode b_L_law 723 = .ok (.iconst 2, 1) := by decide +kernel
theorem d_L_law_724 : decode b_L_law 724 = .ok (.iadd, 1) := by decide +kernel
theorem d_L_law_725 : decode b_L_law 725 = .ok (.iaload, 1) := by decide +kernel
theorem d_L_law_726 : decode b_L_law 726 = .ok (.invokevirtual 101, 3) := by decide +kernel
theorem d_L_law_729 : decode b_L_law 729 = .ok (.if_icmp .eq 5, 3) := by decide +kernel
theorem d_L_law_732 : decode b_L_law 732 = .ok (.iconst 0, 1) := by decide +kernel
theorem d_L_law_733 : decode b_L_law 733 = .ok (.ireturn, 1) := by decide +kernel
theorem d_L_law_734 : decode b_L_law 734 = .ok (.iinc 3 5, 3) := by decide +kernel
theorem d_L_law_737 : decode b_L_law 737 = .ok (.goto (-689), 3) := by decide +kernel
theorem d_L_law_740 : decode b_L_law 740 = .ok (.iconst 1, 1) := by decide +kernel
theorem d_L_law_741 : decode b_L_law 741 = .ok (.ireturn, 1) := by decide +kernel
end
section
/-! The frame of this proof: a method's walk over ONE world of cells (table kt: kind, size, references), whose ints are a function of cell and slot. jw_X: the machine comes from pc to the end; jw_R: an answer will do; jw_M: a method's contract. -/
abbrev jw_Mem : Type := Nat → Nat → Int32
/-- class numbers and slots; class number of each array cell; addresses; the table of the cells; the static row -/
abbrev jw_E : Type := va_G × (Nat → ClassId) × (Nat → Nat) × List (Nat × Nat × List (Option Nat)) × Option Nat
/-- a method: name, code, locals, answer, frames and words that its calls want -/
abbrev jw_F : Type := MethodName × ByteArray × Nat × Option FieldType × Nat × Nat
/-- where a walk stands: program, environment, room, state at the entry, method, arguments, frames below, method, code, cells and slots made, goal -/
abbrev jw_X0 : Type := Program × Env × Room × State × MethodId × Array Value × List Frame × Method × Code × Nat × Nat × (State → Prop)
def jw_ws : List Cond := lw_tbl.filter goodWord
theorem jw_in {w : Cond} (h : w ∈ lw_tbl) (g : goodWord w = true) : w ∈ jw_ws := List.mem_filter.mpr ⟨h, g⟩
def jw_ty : Nat → FieldType
  | 1 => .int
  | 2 => .boolean
  | 3 => .object "VersionRing$Node"
  | _ => .object "VersionRing$Context"
def jw_fv (E : jw_E) (μ : Nat → Int32) (j : Nat) : Option Nat → Value
  | some t => .ref (E.2.2.1 t)
  | none => .int (μ j)
def jw_fs (E : jw_E) (rs : List (Option Nat)) (μ : Nat → Int32) : List Value := rs.mapIdx (fun j r => jw_fv E μ j r)
def jw_cont (E : jw_E) (k : Nat) (μ : Nat → Int32) : va_E := match E.2.2.2.1[k]? with
  | some (0, ci, rs) => .inr (ci, jw_fs E rs μ)
  | some (1, n, _) => .inl (E.2.1 k, n, .inl μ)
  | some (2, n, _) => .inl (E.2.1 k, n, .inl μ)
  | some (_, n, rs) => .inl (E.2.1 k, n, .inr (.inr (.inr (.inr (fun i => (rs.getD i none).map E.2.2.1)))))
  | none => .inr (0, [])
def jw_W (E : jw_E) (M : jw_Mem) : va_W := (List.range E.2.2.2.1.length).map (fun k => (E.2.2.1 k, jw_cont E k (M k)))
def jw_U (M : jw_Mem) (k j : Nat) (x : Int32) : jw_Mem := fun q => if q = k then upd (M k) j x else M q
def jw_UA (M : jw_Mem) (k : Nat) (μ : Nat → Int32) : jw_Mem := fun q => if q = k then μ else M q
theorem jw_lt {E : jw_E} {k : Nat} {x : Nat × Nat × List (Option Nat)} (h : E.2.2.2.1[k]? = some x) : k < E.2.2.2.1.length := (List.getElem?_eq_some_iff.mp h).1
theorem jw_W_at {E : jw_E} {M : jw_Mem} {k : Nat} (hk : k < E.2.2.2.1.length) : (jw_W E M)[k]? = some (E.2.2.1 k, jw_cont E k (M k)) := by
  unfold jw_W
  rw [List.getElem?_map, List.getElem?_range hk]
  rfl
theorem jw_W_some {E : jw_E} {M : jw_Mem} {k : Nat} {q : Nat × va_E} (h : (jw_W E M)[k]? = some q) : k < E.2.2.2.1.length ∧ q = (E.2.2.1 k, jw_cont E k (M k)) := by
  have hl : k < (jw_W E M).length := (List.getElem?_eq_some_iff.mp h).1
  have hk : k < E.2.2.2.1.length := by
    unfold jw_W at hl
    rw [List.length_map, List.length_range] at hl
    exact hl
  rw [jw_W_at hk] at h
  exact ⟨hk, (Option.some.inj h).symm⟩
theorem jw_W_set {E : jw_E} {M : jw_Mem} {k : Nat} (μ : Nat → Int32) (hk : k < E.2.2.2.1.length) : (jw_W E M).set k (E.2.2.1 k, jw_cont E k μ) = jw_W E (jw_UA M k μ) := by
  apply List.ext_getElem?
  intro i
  by_cases hl : i < E.2.2.2.1.length
  · rw [jw_W_at hl]
    by_cases hi : i = k
    · subst hi
      rw [List.getElem?_set_self (by unfold jw_W; rw [List.length_map, List.length_range]; exact hl)]
      simp [jw_UA]
    · rw [List.getElem?_set_ne (Ne.symm hi), jw_W_at hl]
      simp [jw_UA, hi]
  · rw [List.getElem?_eq_none (by rw [List.length_set]; unfold jw_W; rw [List.length_map, List.length_range]; exact Nat.not_lt.mp hl), List.getElem?_eq_none (by unfold jw_W; rw [List.length_map, List.length_range]; exact Nat.not_lt.mp hl)]
theorem jw_U_eq (M : jw_Mem) (k j : Nat) (x : Int32) : jw_UA M k (upd (M k) j x) = jw_U M k j x := rfl
/-- what the tables say of the classes and of the arrays' classes -/
def jw_K (E : jw_E) (U : State) : Prop := (∀ (c : Nat) (q : vw_C), vwCl[c]? = some q → u_Kn U q.1 q.2.1 q.2.2 (E.1.1 c) (E.1.2 c)) ∧ ∀ (k kd n : Nat) (rs : List (Option Nat)), E.2.2.2.1[k]? = some (kd, n, rs) → kd ≠ 0 → ArrOfT U (E.2.1 k) (jw_ty kd) ∧ va_RA U (E.2.1 k) (jw_ty kd)
theorem jw_K_moved {E : jw_E} {u U : State} (hvm : u.vm.Alike U.vm) (h : jw_K E u) : jw_K E U := ⟨fun c q hq => u_Kn_moved hvm (h.1 c q hq), fun k kd n rs hk h0 => ⟨arrOfT_moved hvm (h.2 k kd n rs hk h0).1, (h.2 k kd n rs hk h0).2.moved hvm⟩⟩
theorem jw_K_0 {E : jw_E} {U : State} (h : jw_K E U) : va_K E.1 vwCl [] U := ⟨h.1, fun i q hi => by simp at hi⟩
theorem jw_K_1 {E : jw_E} {U : State} {k kd n : Nat} {rs : List (Option Nat)} (h : jw_K E U) (hk : E.2.2.2.1[k]? = some (kd, n, rs)) (h0 : kd ≠ 0) : va_K E.1 vwCl [(E.2.1 k, jw_ty kd)] U := by
  refine ⟨h.1, fun i q hi => ?_⟩
  cases i with
  | zero =>
    simp at hi
    subst hi
    exact h.2 k kd n rs hk h0
  | succ i => simp at hi
theorem jw_K_2 {E : jw_E} {U : State} {k kd n k2 kd2 n2 : Nat} {rs rs2 : List (Option Nat)} (h : jw_K E U) (hk : E.2.2.2.1[k]? = some (kd, n, rs)) (h0 : kd ≠ 0) (hk2 : E.2.2.2.1[k2]? = some (kd2, n2, rs2)) (h02 : kd2 ≠ 0) : va_K E.1 vwCl [(E.2.1 k, jw_ty kd), (E.2.1 k2, jw_ty kd2)] U := by
  have h1 := (jw_K_1 h hk h0).app (jw_K_1 h hk2 h02)
  exact h1
/-- the static row of five zeros -/
def jw_Z (E : jw_E) (A : Nat → Prop) (U : State) (H : Heap) : Prop := ∀ t, E.2.2.2.2 = some t → va_Z "VersionRing" "NOTHING_KNOWN" "[I" (.ref t) A U H ∧ va_T .int t 5 (fun _ => .int 0) A U H
theorem jw_Z_moved {E : jw_E} {A : Nat → Prop} {u U : State} {H : Heap} (hvm : u.vm.Alike U.vm) (h : jw_Z E A u H) : jw_Z E A U H := fun t ht => ⟨(h t ht).1.moved hvm, (h t ht).2.moved hvm⟩
theorem jw_Z_kept {E : jw_E} {A : Nat → Prop} {U : State} {H H1 : Heap} (h : jw_Z E A U H) (hq : ∀ a : Nat, a < H.size → ¬ A a → H1[a]? = H[a]?) : jw_Z E A U H1 := fun t ht => ⟨(h t ht).1.kept hq, (h t ht).2.kept hq⟩
/-- the cells are apart, and the method may change them -/
def jw_D (E : jw_E) (A : Nat → Prop) : Prop := (∀ i j, i < E.2.2.2.1.length → j < E.2.2.2.1.length → E.2.2.1 i = E.2.2.1 j → i = j) ∧ ∀ k, k < E.2.2.2.1.length → A (E.2.2.1 k)
theorem jw_D_va {E : jw_E} {A : Nat → Prop} (h : jw_D E A) (M : jw_Mem) : va_D A (jw_W E M) := by
  refine ⟨fun i j x y hi hj hxy => ?_, fun k q hk => ?_⟩
  · obtain ⟨a1, rfl⟩ := jw_W_some hi
    obtain ⟨a2, rfl⟩ := jw_W_some hj
    exact h.1 i j a1 a2 hxy
  · obtain ⟨a1, rfl⟩ := jw_W_some hk
    exact h.2 k a1
def jw_S (E : jw_E) (A : Nat → Prop) (U : State) : Prop := jw_K E U ∧ jw_Z E A U U.heap ∧ jw_D E A
/-- locals: by their numbers; none: nothing is known -/
def jw_l (ls : Array Slot) (nL : Nat) (L : List (Option Value)) : Prop := ls.size = nL ∧ lv_wf ls ∧ ∀ (i : Nat) (v : Value), L[i]? = some (some v) → ls[i]? = some (.val v) ∧ v.category = 1
def jw_pr1 (L : List (Option Value)) (i : Nat) : Option (Nat × Value) := match L[i]? with
  | some (some v) => some (i, v)
  | _ => none
def jw_pr (L : List (Option Value)) : List (Nat × Value) := (List.range L.length).filterMap (jw_pr1 L)
theorem jw_mem_pr {L : List (Option Value)} {i : Nat} {v : Value} (h : L[i]? = some (some v)) : (i, v) ∈ jw_pr L := List.mem_filterMap.mpr ⟨i, List.mem_range.mpr (List.getElem?_eq_some_iff.mp h).1, by unfold jw_pr1; rw [h]⟩
theorem jw_of_pr {L : List (Option Value)} {q : Nat × Value} (h : q ∈ jw_pr L) : L[q.1]? = some (some q.2) := by
  obtain ⟨i, -, hi⟩ := List.mem_filterMap.mp h
  unfold jw_pr1 at hi
  split at hi
  · rename_i v hv
    cases hi
    exact hv
  · cases hi
theorem jw_l_has {ls : Array Slot} {nL : Nat} {L : List (Option Value)} (h : jw_l ls nL L) : lv_has ls nL (jw_pr L) := ⟨h.1, h.2.1, fun q hq => (h.2.2 _ _ (jw_of_pr hq)).1⟩
theorem jw_l_set {ls ls' : Array Slot} {nL i : Nat} {v : Value} {L : List (Option Value)} (h : jw_l ls nL L) (hc : v.category = 1) (h' : lv_has ls' nL ((i, v) :: (jw_pr L).filter (fun q => !(q.1 == i) && !(q.1 + 1 == i && q.2.category == 2)))) : jw_l ls' nL (L.set i (some v)) := by
  refine ⟨h'.1, h'.2.1, fun j w hj => ?_⟩
  by_cases e : j = i
  · subst e
    have hl : j < (L.set j (some v)).length := (List.getElem?_eq_some_iff.mp hj).1
    rw [List.length_set] at hl
    rw [List.getElem?_set_self hl] at hj
    cases hj
    exact ⟨h'.2.2 (j, v) List.mem_cons_self, hc⟩
  · rw [List.getElem?_set_ne (Ne.symm e)] at hj
    have hw := (h.2.2 j w hj).2
    refine ⟨h'.2.2 (j, w) (List.mem_cons_of_mem _ (List.mem_filter.mpr ⟨jw_mem_pr hj, ?_⟩)), hw⟩
    simp [e, hw]
/-- what holds along a walk of f -/
def jw_C (E : jw_E) (A : Nat → Prop) (f : jw_F) (p : Program) (R : Room) (s : State) (m : MethodId) (args : Array Value) (meth : Method) (c : Code) (cells slots : Nat) : Prop :=
  p.tables.exec = Jvm.exec ∧ c.code = f.2.1 ∧ meth.sig.returnType = f.2.2.2.1 ∧ c.maxLocals = f.2.2.1 ∧ s.vm.findClass f.1.cls = some m.cls ∧ (∀ w ∈ jw_ws, w.before args s = true) ∧ meth.locks = false ∧ jw_S E A s ∧ (f.2.2.2.2.1 ≤ R.frames ∧ f.2.2.2.2.2 ≤ R.locals ∧ cells ≤ R.cells ∧ slots ≤ R.slots)
/-- the walk: at pc, with locals L, stack S, ints M -/
def jw_X (l : Launch) (X : jw_X0) (E : jw_E) (A : Nat → Prop) (f : jw_F) (pc : Nat) (L : List (Option Value)) (S : List Value) (M : jw_Mem) : Prop := match X with
  | (p, e, R, s, m, args, below, meth, c, cells, slots, Q) => jw_C E A f p R s m args meth c cells slots → ∀ (H : Heap) (locs : List Loc) (ls : Array Slot), va_P E.1 vwCl (jw_W E M) H → va_S A s.heap H locs → jw_l ls f.2.2.1 L → W p l e R s m args below meth c H locs cells slots Q (F0 m pc ls S)
/-- an answer r, with the ints M, will do -/
def jw_R (l : Launch) (X : jw_X0) (E : jw_E) (A : Nat → Prop) (f : jw_F) (r : Int32) (M : jw_Mem) : Prop := match X with
  | (p, e, R, s, m, args, below, meth, c, cells, slots, Q) => jw_C E A f p R s m args meth c cells slots → ∀ (H : Heap) (locs : List Loc) (pc : Nat) (ls : Array Slot), va_P E.1 vwCl (jw_W E M) H → va_S A s.heap H locs → (f.2.2.2.1 = none → r = 0 → decode f.2.1 pc = .ok (.return_, 1) → W p l e R s m args below meth c H locs cells slots Q (F0 m pc ls [])) ∧ (∀ ty, f.2.2.2.1 = some ty → decode f.2.1 pc = .ok (.ireturn, 1) → W p l e R s m args below meth c H locs cells slots Q (F0 m pc ls [.int r]))
def jw_rm (f : jw_F) : Room := { frames := f.2.2.2.2.1, cells := 0, slots := 0, locals := f.2.2.2.2.2 }
def jw_w (f : jw_F) : List Cond := .code f.1 f.2.1 f.2.2.1 f.2.2.2.1 :: jw_ws
def jw_B (E : jw_E) (M : jw_Mem) (t : State) : Prop := va_P E.1 vwCl (jw_W E M) t.heap
def jw_Q (E : jw_E) (A : Nat → Prop) (ret : Option FieldType) (Q : Int32 → jw_Mem → Prop) : Array Value → State → Outcome → State → Prop := match ret with
  | none => va_Qv (fun M => Q 0 M) (jw_B E) A
  | some _ => va_Qi Q (jw_B E) A
def jw_I (E : jw_E) (A : Nat → Prop) (M : jw_Mem) (U : State) : Prop := va_P E.1 vwCl (jw_W E M) U.heap ∧ jw_S E A U
/-- the contract of f, goal first: called with As at ints M it comes back with an answer and ints of which Q holds -/
def jw_M (l : Launch) (E : jw_E) (A : Nat → Prop) (f : jw_F) (As : List Value) (M : jw_Mem) (Q : Int32 → jw_Mem → Prop) : Prop := Met l f.1 (jw_w f) (jw_rm f) (va_Pc As (jw_I E A M)) (jw_Q E A f.2.2.2.1 Q) 0 0 A
theorem jw_M_mono {l : Launch} {E : jw_E} {A : Nat → Prop} {f : jw_F} {As : List Value} {M : jw_Mem} {Q Q' : Int32 → jw_Mem → Prop} (h : jw_M l E A f As M Q) (hq : ∀ r M', Q r M' → Q' r M') : jw_M l E A f As M Q' := by
  intro p e ha hc hk s m args below hf happ hP hK
  obtain ⟨n, o, h1, h2, h3, hQ, hrest⟩ := h p e ha hc hk s m args below hf happ hP hK
  refine ⟨n, o, h1, h2, h3, ?_, hrest⟩
  obtain ⟨y, bytes, maxL, ret, dep, loc⟩ := f
  cases ret with
  | none =>
    obtain ⟨⟨u, e1, e2, e3⟩, e4⟩ := hQ
    exact ⟨⟨u, e1, hq _ _ e2, e3⟩, e4⟩
  | some ty =>
    obtain ⟨⟨r, u, e1, e2, e3⟩, e4⟩ := hQ
    exact ⟨⟨r, u, e1, hq _ _ e2, e3⟩, e4⟩
theorem jw_sl_len : ∀ (vs : List Value), (∀ v ∈ vs, v.category = 1) → (lg_sl vs).length = vs.length
  | [], _ => rfl
  | v :: t, h => by
    have h1 : v.category = 1 := h v List.mem_cons_self
    have h2 := jw_sl_len t (fun w hw => h w (List.mem_cons_of_mem _ hw))
    unfold lg_sl at h2 ⊢
    rw [List.flatMap_cons, List.length_append, h2, if_neg (by omega)]
    simp
    omega
theorem jw_args_in : ∀ (vs : List Value) (i k : Nat) (v : Value), (∀ v ∈ vs, v.category = 1) → vs[k]? = some v → (i + k, v) ∈ lv_args i vs
  | [], i, k, v, _, h => by simp at h
  | a :: t, i, k, v, hc, h => by
    have h1 : a.category = 1 := hc a List.mem_cons_self
    unfold lv_args
    rw [if_neg (by omega)]
    cases k with
    | zero =>
      simp at h
      subst h
      exact List.mem_cons_self
    | succ k =>
      rw [List.getElem?_cons_succ] at h
      have := jw_args_in t (i + 1) k v (fun w hw => hc w (List.mem_cons_of_mem _ hw)) h
      rw [show i + (k + 1) = i + 1 + k by omega]
      exact List.mem_cons_of_mem _ this
/-- a contract out of a walk of the body -/
theorem jw_M_of {l : Launch} {E : jw_E} {A : Nat → Prop} {f : jw_F} {As : List Value} {M : jw_Mem} {Q : Int32 → jw_Mem → Prop} (hy : plainName f.1.cls = true) (hlen : As.length ≤ f.2.2.1) (hcat : ∀ v ∈ As, v.category = 1)
    (h : ∀ X, (∀ r M', Q r M' → (∀ ty, f.2.2.2.1 = some ty → narrow ty (.int r) = .int r) → jw_R l X E A f r M') → jw_X l X E A f 0 (As.map some ++ List.replicate (f.2.2.1 - As.length) none) [] M) : jw_M l E A f As M Q := by
  refine Met.ofW (cc := f.2.1) (maxL := f.2.2.1) (ret := f.2.2.2.1) hy rfl ?_
  intro p e s m args below meth c s₁ B hml hv
  obtain ⟨rfl, hP, hSx⟩ := hv
  have hts := atoms_spec (ws := jw_w f) B.pre
  have hown : s.vm.findClass f.1.cls = some m.cls := findClass_of_methodNamed B.named
  have hl := lv_entry As (n := f.2.2.1) (by rw [jw_sl_len As hcat]; exact hlen)
  rw [lg_entry_eq]
  generalize (lg_sl As ++ List.replicate (f.2.2.1 - (lg_sl As).length) Slot.unset).toArray = ls at hl ⊢
  have hl' : jw_l ls f.2.2.1 (As.map some ++ List.replicate (f.2.2.1 - As.length) none) := by
    refine ⟨hl.1, hl.2.1, fun i v hi => ?_⟩
    have hi2 : As[i]? = some v := by
      by_cases h1 : i < (As.map some).length
      · rw [List.getElem?_append_left h1, List.getElem?_map] at hi
        cases h2 : As[i]? with
        | none => rw [h2] at hi; cases hi
        | some w => rw [h2] at hi; cases hi; rfl
      · rw [List.getElem?_append_right (Nat.not_lt.mp h1)] at hi
        have h2 := List.mem_of_getElem? hi
        have h3 := List.eq_of_mem_replicate h2
        cases h3
    refine ⟨?_, hcat v (List.mem_of_getElem? hi2)⟩
    have h4 := hl.2.2 (i, v) (by have := jw_args_in As 0 i v hcat hi2; rwa [Nat.zero_add] at this)
    exact h4
  have C : jw_C E A f p (headSpec (jw_w f) (jw_rm f)).room s m As.toArray meth c 0 0 := ⟨B.exec, B.bytes, B.returns, hml, hown, fun w hw => hts w (List.mem_cons_of_mem _ hw), B.notSynchronized, hSx, Nat.le_refl _, Nat.le_refl _, Nat.le_refl _, Nat.le_refl _⟩
  refine h (p, e, (headSpec (jw_w f) (jw_rm f)).room, s, m, As.toArray, below, meth, c, 0, 0, MQ below (jw_Q E A f.2.2.2.1 Q) As.toArray s 0 0 A) ?_ C s.heap [] ls hP va_S.rf hl'
  intro r M' hq hn C' H locs pc ls' hP' hS'
  refine ⟨fun h0 hr hd => ?_, fun ty h0 hd => ?_⟩
  · subst hr
    exact W.vret (Qc := jw_Q E A f.2.2.2.1 Q) C'.1 C'.2.1 (C'.2.2.1.trans h0) (fun t ht hW => by
      rw [h0]
      exact ⟨⟨M', rfl, hq, by show va_P _ _ _ t.heap; rw [ht]; exact hP'⟩, hS'.F ht⟩) hS'.2.2 hd C'.2.2.2.2.2.2.1
  · exact W.zret (Qc := jw_Q E A f.2.2.2.1 Q) C'.1 C'.2.1 (C'.2.2.1.trans h0) (hn ty h0) (fun t ht hW => by
      rw [h0]
      exact ⟨⟨r, M', rfl, hq, by show va_P _ _ _ t.heap; rw [ht]; exact hP'⟩, hS'.F ht⟩) hS'.2.2 hd C'.2.2.2.2.2.2.1
end
section
/-! Rules of jw_X: an instruction each. -/
section JR
variable {l : Launch} {X : jw_X0} {E : jw_E} {A : Nat → Prop} {f : jw_F} {pc : Nat} {L : List (Option Value)} {S : List Value} {M : jw_Mem}
theorem jw_iconst {n : Int} {v : Int32} (hd : decode f.2.1 pc = .ok (.iconst n, 1)) (hv : Int32.ofInt n = v) (h : jw_X l X E A f (pc + 1) L (.int v :: S) M) : jw_X l X E A f pc L S M := by
  obtain ⟨p, e, R, s, m, args, below, meth, c, cells, slots, Q⟩ := X
  intro C H locs ls hP hS hl
  exact lv_iconst C.1 C.2.1 hd hv (h C H locs ls hP hS hl)
theorem jw_bipush {n : Int} {v : Int32} (hd : decode f.2.1 pc = .ok (.bipush n, 2)) (hv : (Int8.ofInt n).toInt32 = v) (h : jw_X l X E A f (pc + 2) L (.int v :: S) M) : jw_X l X E A f pc L S M := by
  obtain ⟨p, e, R, s, m, args, below, meth, c, cells, slots, Q⟩ := X
  intro C H locs ls hP hS hl
  exact lv_bipush C.1 C.2.1 hd hv (h C H locs ls hP hS hl)
theorem jw_sipush {n : Int} {v : Int32} (hd : decode f.2.1 pc = .ok (.sipush n, 3)) (hv : (Int16.ofInt n).toInt32 = v) (h : jw_X l X E A f (pc + 3) L (.int v :: S) M) : jw_X l X E A f pc L S M := by
  obtain ⟨p, e, R, s, m, args, below, meth, c, cells, slots, Q⟩ := X
  intro C H locs ls hP hS hl
  exact lv_sipush C.1 C.2.1 hd hv (h C H locs ls hP hS hl)
theorem jw_iload_n {k : Fin 4} {i : Nat} {x : Int32} (hd : decode f.2.1 pc = .ok (.iload_n k, 1)) (hi : (k : Nat) = i) (hx : L[i]? = some (some (.int x))) (h : jw_X l X E A f (pc + 1) L (.int x :: S) M) : jw_X l X E A f pc L S M := by
  obtain ⟨p, e, R, s, m, args, below, meth, c, cells, slots, Q⟩ := X
  intro C H locs ls hP hS hl
  exact lv_iload_n C.1 C.2.1 hd hi (hl.2.2 _ _ hx).1 (h C H locs ls hP hS hl)
theorem jw_iload {i : Nat} {x : Int32} (hd : decode f.2.1 pc = .ok (.iload i, 2)) (hx : L[i]? = some (some (.int x))) (h : jw_X l X E A f (pc + 2) L (.int x :: S) M) : jw_X l X E A f pc L S M := by
  obtain ⟨p, e, R, s, m, args, below, meth, c, cells, slots, Q⟩ := X
  intro C H locs ls hP hS hl
  exact lv_iload C.1 C.2.1 hd (hl.2.2 _ _ hx).1 (h C H locs ls hP hS hl)
theorem jw_istore_n {k : Fin 4} {i : Nat} {x : Int32} (hd : decode f.2.1 pc = .ok (.istore_n k, 1)) (hi : (k : Nat) = i) (hn : i < f.2.2.1) (h : jw_X l X E A f (pc + 1) (L.set i (some (.int x))) S M) : jw_X l X E A f pc L (.int x :: S) M := by
  obtain ⟨p, e, R, s, m, args, below, meth, c, cells, slots, Q⟩ := X
  intro C H locs ls hP hS hl
  exact lv_istore_n C.1 C.2.1 hd hi (jw_l_has hl) hn rfl (fun ls' hl' => h C H locs ls' hP hS (jw_l_set hl rfl hl'))
theorem jw_istore {i : Nat} {x : Int32} (hd : decode f.2.1 pc = .ok (.istore i, 2)) (hn : i < f.2.2.1) (h : jw_X l X E A f (pc + 2) (L.set i (some (.int x))) S M) : jw_X l X E A f pc L (.int x :: S) M := by
  obtain ⟨p, e, R, s, m, args, below, meth, c, cells, slots, Q⟩ := X
  intro C H locs ls hP hS hl
  exact lv_istore C.1 C.2.1 hd (jw_l_has hl) hn rfl (fun ls' hl' => h C H locs ls' hP hS (jw_l_set hl rfl hl'))
theorem jw_aload_n {k : Fin 4} {i : Nat} {x : Nat} (hd : decode f.2.1 pc = .ok (.aload_n k, 1)) (hi : (k : Nat) = i) (hx : L[i]? = some (some (.ref x))) (h : jw_X l X E A f (pc + 1) L (.ref x :: S) M) : jw_X l X E A f pc L S M := by
  obtain ⟨p, e, R, s, m, args, below, meth, c, cells, slots, Q⟩ := X
  intro C H locs ls hP hS hl
  exact lv_aload_n C.1 C.2.1 hd hi (hl.2.2 _ _ hx).1 (h C H locs ls hP hS hl)
theorem jw_aload {i : Nat} {x : Nat} (hd : decode f.2.1 pc = .ok (.aload i, 2)) (hx : L[i]? = some (some (.ref x))) (h : jw_X l X E A f (pc + 2) L (.ref x :: S) M) : jw_X l X E A f pc L S M := by
  obtain ⟨p, e, R, s, m, args, below, meth, c, cells, slots, Q⟩ := X
  intro C H locs ls hP hS hl
  exact lv_aload C.1 C.2.1 hd (hl.2.2 _ _ hx).1 (h C H locs ls hP hS hl)
theorem jw_astore_n {k : Fin 4} {i : Nat} {x : Nat} (hd : decode f.2.1 pc = .ok (.astore_n k, 1)) (hi : (k : Nat) = i) (hn : i < f.2.2.1) (h : jw_X l X E A f (pc + 1) (L.set i (some (.ref x))) S M) : jw_X l X E A f pc L (.ref x :: S) M := by
  obtain ⟨p, e, R, s, m, args, below, meth, c, cells, slots, Q⟩ := X
  intro C H locs ls hP hS hl
  exact lv_astore_n C.1 C.2.1 hd hi (jw_l_has hl) hn rfl (fun ls' hl' => h C H locs ls' hP hS (jw_l_set hl rfl hl'))
theorem jw_astore {i : Nat} {x : Nat} (hd : decode f.2.1 pc = .ok (.astore i, 2)) (hn : i < f.2.2.1) (h : jw_X l X E A f (pc + 2) (L.set i (some (.ref x))) S M) : jw_X l X E A f pc L (.ref x :: S) M := by
  obtain ⟨p, e, R, s, m, args, below, meth, c, cells, slots, Q⟩ := X
  intro C H locs ls hP hS hl
  exact lv_astore C.1 C.2.1 hd (jw_l_has hl) hn rfl (fun ls' hl' => h C H locs ls' hP hS (jw_l_set hl rfl hl'))
theorem jw_iinc {i : Nat} {n : Int} {x d : Int32} (hd : decode f.2.1 pc = .ok (.iinc i n, 3)) (hx : L[i]? = some (some (.int x))) (hv : Int32.ofInt n = d) (hn : i < f.2.2.1) (h : jw_X l X E A f (pc + 3) (L.set i (some (.int (x + d)))) S M) : jw_X l X E A f pc L S M := by
  obtain ⟨p, e, R, s, m, args, below, meth, c, cells, slots, Q⟩ := X
  intro C H locs ls hP hS hl
  obtain ⟨k, hk⟩ := List.getElem?_of_mem (jw_mem_pr hx)
  exact lv_iinc (v := x + d) C.1 C.2.1 hd (jw_l_has hl) hk (by rw [hv]) hn rfl (fun ls' hl' => h C H locs ls' hP hS (jw_l_set hl rfl hl'))
theorem jw_iadd {x y : Int32} (hd : decode f.2.1 pc = .ok (.iadd, 1)) (h : jw_X l X E A f (pc + 1) L (.int (x + y) :: S) M) : jw_X l X E A f pc L (.int y :: .int x :: S) M := by
  obtain ⟨p, e, R, s, m, args, below, meth, c, cells, slots, Q⟩ := X
  intro C H locs ls hP hS hl
  exact lv_iadd C.1 C.2.1 hd (h C H locs ls hP hS hl)
theorem jw_isub {x y : Int32} (hd : decode f.2.1 pc = .ok (.isub, 1)) (h : jw_X l X E A f (pc + 1) L (.int (x - y) :: S) M) : jw_X l X E A f pc L (.int y :: .int x :: S) M := by
  obtain ⟨p, e, R, s, m, args, below, meth, c, cells, slots, Q⟩ := X
  intro C H locs ls hP hS hl
  exact lv_isub C.1 C.2.1 hd (h C H locs ls hP hS hl)
theorem jw_imul {x y : Int32} (hd : decode f.2.1 pc = .ok (.imul, 1)) (h : jw_X l X E A f (pc + 1) L (.int (x * y) :: S) M) : jw_X l X E A f pc L (.int y :: .int x :: S) M := by
  obtain ⟨p, e, R, s, m, args, below, meth, c, cells, slots, Q⟩ := X
  intro C H locs ls hP hS hl
  exact lv_imul C.1 C.2.1 hd (h C H locs ls hP hS hl)
theorem jw_iand {x y : Int32} (hd : decode f.2.1 pc = .ok (.iand, 1)) (h : jw_X l X E A f (pc + 1) L (.int (x &&& y) :: S) M) : jw_X l X E A f pc L (.int y :: .int x :: S) M := by
  obtain ⟨p, e, R, s, m, args, below, meth, c, cells, slots, Q⟩ := X
  intro C H locs ls hP hS hl
  exact lv_iand C.1 C.2.1 hd (h C H locs ls hP hS hl)
theorem jw_idiv {x y : Int32} (hd : decode f.2.1 pc = .ok (.idiv, 1)) (hne : ¬ y = 0) (h : jw_X l X E A f (pc + 1) L (.int (x / y) :: S) M) : jw_X l X E A f pc L (.int y :: .int x :: S) M := by
  obtain ⟨p, e, R, s, m, args, below, meth, c, cells, slots, Q⟩ := X
  intro C H locs ls hP hS hl
  exact lv_idiv C.1 C.2.1 hd hne (h C H locs ls hP hS hl)
theorem jw_irem {x y : Int32} (hd : decode f.2.1 pc = .ok (.irem, 1)) (hne : ¬ y = 0) (h : jw_X l X E A f (pc + 1) L (.int (x - x / y * y) :: S) M) : jw_X l X E A f pc L (.int y :: .int x :: S) M := by
  obtain ⟨p, e, R, s, m, args, below, meth, c, cells, slots, Q⟩ := X
  intro C H locs ls hP hS hl
  exact lv_irem C.1 C.2.1 hd hne (h C H locs ls hP hS hl)
theorem jw_dup {v : Value} (hd : decode f.2.1 pc = .ok (.dup, 1)) (hc : v.category = 1) (h : jw_X l X E A f (pc + 1) L (v :: v :: S) M) : jw_X l X E A f pc L (v :: S) M := by
  obtain ⟨p, e, R, s, m, args, below, meth, c, cells, slots, Q⟩ := X
  intro C H locs ls hP hS hl
  exact lv_dup C.1 C.2.1 hd hc (h C H locs ls hP hS hl)
theorem jw_pop {v : Value} (hd : decode f.2.1 pc = .ok (.pop, 1)) (hc : v.category = 1) (h : jw_X l X E A f (pc + 1) L S M) : jw_X l X E A f pc L (v :: S) M := by
  obtain ⟨p, e, R, s, m, args, below, meth, c, cells, slots, Q⟩ := X
  intro C H locs ls hP hS hl
  exact lv_pop C.1 C.2.1 hd hc (h C H locs ls hP hS hl)
theorem jw_goto {off : Int} {tgt : Nat} (hd : decode f.2.1 pc = .ok (.goto off, 3)) (ht : (pc : Int) + off = (tgt : Int)) (h : jw_X l X E A f tgt L S M) : jw_X l X E A f pc L S M := by
  obtain ⟨p, e, R, s, m, args, below, meth, c, cells, slots, Q⟩ := X
  intro C H locs ls hP hS hl
  exact lv_goto C.1 C.2.1 hd ht (h C H locs ls hP hS hl)
theorem jw_if_eq {x : Int32} {off : Int} {tgt : Nat} (hd : decode f.2.1 pc = .ok (.ifCond .eq off, 3)) (ht : (pc : Int) + off = (tgt : Int)) (kt : x = 0 → jw_X l X E A f tgt L S M) (kf : ¬ x = 0 → jw_X l X E A f (pc + 3) L S M) : jw_X l X E A f pc L (.int x :: S) M := by
  obtain ⟨p, e, R, s, m, args, below, meth, c, cells, slots, Q⟩ := X
  intro C H locs ls hP hS hl
  exact lv_if_eq C.1 C.2.1 hd ht (fun z => kt z C H locs ls hP hS hl) (fun z => kf z C H locs ls hP hS hl)
theorem jw_icmp_eq {x y : Int32} {off : Int} {tgt : Nat} (hd : decode f.2.1 pc = .ok (.if_icmp .eq off, 3)) (ht : (pc : Int) + off = (tgt : Int)) (kt : x = y → jw_X l X E A f tgt L S M) (kf : ¬ x = y → jw_X l X E A f (pc + 3) L S M) : jw_X l X E A f pc L (.int y :: .int x :: S) M := by
  obtain ⟨p, e, R, s, m, args, below, meth, c, cells, slots, Q⟩ := X
  intro C H locs ls hP hS hl
  exact lv_icmp_eq C.1 C.2.1 hd ht (fun z => kt z C H locs ls hP hS hl) (fun z => kf z C H locs ls hP hS hl)
theorem jw_if_ne {x : Int32} {off : Int} {tgt : Nat} (hd : decode f.2.1 pc = .ok (.ifCond .ne off, 3)) (ht : (pc : Int) + off = (tgt : Int)) (kt : ¬ x = 0 → jw_X l X E A f tgt L S M) (kf : x = 0 → jw_X l X E A f (pc + 3) L S M) : jw_X l X E A f pc L (.int x :: S) M := by
  obtain ⟨p, e, R, s, m, args, below, meth, c, cells, slots, Q⟩ := X
  intro C H locs ls hP hS hl
  exact lv_if_ne C.1 C.2.1 hd ht (fun z => kt z C H locs ls hP hS hl) (fun z => kf z C H locs ls hP hS hl)
theorem jw_icmp_ne {x y : Int32} {off : Int} {tgt : Nat} (hd : decode f.2.1 pc = .ok (.if_icmp .ne off, 3)) (ht : (pc : Int) + off = (tgt : Int)) (kt : ¬ x = y → jw_X l X E A f tgt L S M) (kf : x = y → jw_X l X E A f (pc + 3) L S M) : jw_X l X E A f pc L (.int y :: .int x :: S) M := by
  obtain ⟨p, e, R, s, m, args, below, meth, c, cells, slots, Q⟩ := X
  intro C H locs ls hP hS hl
  exact lv_icmp_ne C.1 C.2.1 hd ht (fun z => kt z C H locs ls hP hS hl) (fun z => kf z C H locs ls hP hS hl)
theorem jw_if_lt {x : Int32} {off : Int} {tgt : Nat} (hd : decode f.2.1 pc = .ok (.ifCond .lt off, 3)) (ht : (pc : Int) + off = (tgt : Int)) (kt : x < 0 → jw_X l X E A f tgt L S M) (kf : ¬ x < 0 → jw_X l X E A f (pc + 3) L S M) : jw_X l X E A f pc L (.int x :: S) M := by
  obtain ⟨p, e, R, s, m, args, below, meth, c, cells, slots, Q⟩ := X
  intro C H locs ls hP hS hl
  exact lv_if_lt C.1 C.2.1 hd ht (fun z => kt z C H locs ls hP hS hl) (fun z => kf z C H locs ls hP hS hl)
theorem jw_icmp_lt {x y : Int32} {off : Int} {tgt : Nat} (hd : decode f.2.1 pc = .ok (.if_icmp .lt off, 3)) (ht : (pc : Int) + off = (tgt : Int)) (kt : x < y → jw_X l X E A f tgt L S M) (kf : ¬ x < y → jw_X l X E A f (pc + 3) L S M) : jw_X l X E A f pc L (.int y :: .int x :: S) M := by
  obtain ⟨p, e, R, s, m, args, below, meth, c, cells, slots, Q⟩ := X
  intro C H locs ls hP hS hl
  exact lv_icmp_lt C.1 C.2.1 hd ht (fun z => kt z C H locs ls hP hS hl) (fun z => kf z C H locs ls hP hS hl)
theorem jw_if_ge {x : Int32} {off : Int} {tgt : Nat} (hd : decode f.2.1 pc = .ok (.ifCond .ge off, 3)) (ht : (pc : Int) + off = (tgt : Int)) (kt : 0 ≤ x → jw_X l X E A f tgt L S M) (kf : ¬ 0 ≤ x → jw_X l X E A f (pc + 3) L S M) : jw_X l X E A f pc L (.int x :: S) M := by
  obtain ⟨p, e, R, s, m, args, below, meth, c, cells, slots, Q⟩ := X
  intro C H locs ls hP hS hl
  exact lv_if_ge C.1 C.2.1 hd ht (fun z => kt z C H locs ls hP hS hl) (fun z => kf z C H locs ls hP hS hl)
theorem jw_icmp_ge {x y : Int32} {off : Int} {tgt : Nat} (hd : decode f.2.1 pc = .ok (.if_icmp .ge off, 3)) (ht : (pc : Int) + off = (tgt : Int)) (kt : y ≤ x → jw_X l X E A f tgt L S M) (kf : ¬ y ≤ x → jw_X l X E A f (pc + 3) L S M) : jw_X l X E A f pc L (.int y :: .int x :: S) M := by
  obtain ⟨p, e, R, s, m, args, below, meth, c, cells, slots, Q⟩ := X
  intro C H locs ls hP hS hl
  exact lv_icmp_ge C.1 C.2.1 hd ht (fun z => kt z C H locs ls hP hS hl) (fun z => kf z C H locs ls hP hS hl)
theorem jw_if_gt {x : Int32} {off : Int} {tgt : Nat} (hd : decode f.2.1 pc = .ok (.ifCond .gt off, 3)) (ht : (pc : Int) + off = (tgt : Int)) (kt : 0 < x → jw_X l X E A f tgt L S M) (kf : ¬ 0 < x → jw_X l X E A f (pc + 3) L S M) : jw_X l X E A f pc L (.int x :: S) M := by
  obtain ⟨p, e, R, s, m, args, below, meth, c, cells, slots, Q⟩ := X
  intro C H locs ls hP hS hl
  exact lv_if_gt C.1 C.2.1 hd ht (fun z => kt z C H locs ls hP hS hl) (fun z => kf z C H locs ls hP hS hl)
theorem jw_icmp_gt {x y : Int32} {off : Int} {tgt : Nat} (hd : decode f.2.1 pc = .ok (.if_icmp .gt off, 3)) (ht : (pc : Int) + off = (tgt : Int)) (kt : y < x → jw_X l X E A f tgt L S M) (kf : ¬ y < x → jw_X l X E A f (pc + 3) L S M) : jw_X l X E A f pc L (.int y :: .int x :: S) M := by
  obtain ⟨p, e, R, s, m, args, below, meth, c, cells, slots, Q⟩ := X
  intro C H locs ls hP hS hl
  exact lv_icmp_gt C.1 C.2.1 hd ht (fun z => kt z C H locs ls hP hS hl) (fun z => kf z C H locs ls hP hS hl)
theorem jw_if_le {x : Int32} {off : Int} {tgt : Nat} (hd : decode f.2.1 pc = .ok (.ifCond .le off, 3)) (ht : (pc : Int) + off = (tgt : Int)) (kt : x ≤ 0 → jw_X l X E A f tgt L S M) (kf : ¬ x ≤ 0 → jw_X l X E A f (pc + 3) L S M) : jw_X l X E A f pc L (.int x :: S) M := by
  obtain ⟨p, e, R, s, m, args, below, meth, c, cells, slots, Q⟩ := X
  intro C H locs ls hP hS hl
  exact lv_if_le C.1 C.2.1 hd ht (fun z => kt z C H locs ls hP hS hl) (fun z => kf z C H locs ls hP hS hl)
theorem jw_icmp_le {x y : Int32} {off : Int} {tgt : Nat} (hd : decode f.2.1 pc = .ok (.if_icmp .le off, 3)) (ht : (pc : Int) + off = (tgt : Int)) (kt : x ≤ y → jw_X l X E A f tgt L S M) (kf : ¬ x ≤ y → jw_X l X E A f (pc + 3) L S M) : jw_X l X E A f pc L (.int y :: .int x :: S) M := by
  obtain ⟨p, e, R, s, m, args, below, meth, c, cells, slots, Q⟩ := X
  intro C H locs ls hP hS hl
  exact lv_icmp_le C.1 C.2.1 hd ht (fun z => kt z C H locs ls hP hS hl) (fun z => kf z C H locs ls hP hS hl)
theorem jw_ireturn {r : Int32} {ty : FieldType} (hd : decode f.2.1 pc = .ok (.ireturn, 1)) (h0 : f.2.2.2.1 = some ty) (h : jw_R l X E A f r M) : jw_X l X E A f pc L [.int r] M := by
  obtain ⟨p, e, R, s, m, args, below, meth, c, cells, slots, Q⟩ := X
  intro C H locs ls hP hS hl
  exact (h C H locs pc ls hP hS).2 ty h0 hd
theorem jw_return (hd : decode f.2.1 pc = .ok (.return_, 1)) (h0 : f.2.2.2.1 = none) (h : jw_R l X E A f 0 M) : jw_X l X E A f pc L [] M := by
  obtain ⟨p, e, R, s, m, args, below, meth, c, cells, slots, Q⟩ := X
  intro C H locs ls hP hS hl
  exact (h C H locs pc ls hP hS).1 h0 rfl hd
/-- cells by their kinds -/
theorem jw_cont_0 {k ci : Nat} {rs : List (Option Nat)} {μ : Nat → Int32} (hk : E.2.2.2.1[k]? = some (0, ci, rs)) : jw_cont E k μ = .inr (ci, jw_fs E rs μ) := by simp only [jw_cont, hk]
theorem jw_cont_1 {k n : Nat} {rs : List (Option Nat)} {μ : Nat → Int32} (hk : E.2.2.2.1[k]? = some (1, n, rs)) : jw_cont E k μ = .inl (E.2.1 k, n, .inl μ) := by simp only [jw_cont, hk]
theorem jw_cont_2 {k n : Nat} {rs : List (Option Nat)} {μ : Nat → Int32} (hk : E.2.2.2.1[k]? = some (2, n, rs)) : jw_cont E k μ = .inl (E.2.1 k, n, .inl μ) := by simp only [jw_cont, hk]
theorem jw_cont_3 {k n : Nat} {rs : List (Option Nat)} {μ : Nat → Int32} (hk : E.2.2.2.1[k]? = some (3, n, rs)) : jw_cont E k μ = .inl (E.2.1 k, n, .inr (.inr (.inr (.inr (fun i => (rs.getD i none).map E.2.2.1))))) := by simp only [jw_cont, hk]
theorem jw_cont_4 {k n : Nat} {rs : List (Option Nat)} {μ : Nat → Int32} (hk : E.2.2.2.1[k]? = some (4, n, rs)) : jw_cont E k μ = .inl (E.2.1 k, n, .inr (.inr (.inr (.inr (fun i => (rs.getD i none).map E.2.2.1))))) := by simp only [jw_cont, hk]
theorem jw_at_0 {k ci : Nat} {rs : List (Option Nat)} (hk : E.2.2.2.1[k]? = some (0, ci, rs)) : (jw_W E M)[k]? = some (E.2.2.1 k, .inr (ci, jw_fs E rs (M k))) := by rw [jw_W_at (jw_lt hk), jw_cont_0 hk]
theorem jw_at_1 {k n : Nat} {rs : List (Option Nat)} (hk : E.2.2.2.1[k]? = some (1, n, rs)) : (jw_W E M)[k]? = some (E.2.2.1 k, .inl (E.2.1 k, n, .inl (M k))) := by rw [jw_W_at (jw_lt hk), jw_cont_1 hk]
theorem jw_at_2 {k n : Nat} {rs : List (Option Nat)} (hk : E.2.2.2.1[k]? = some (2, n, rs)) : (jw_W E M)[k]? = some (E.2.2.1 k, .inl (E.2.1 k, n, .inl (M k))) := by rw [jw_W_at (jw_lt hk), jw_cont_2 hk]
theorem jw_at_3 {k n : Nat} {rs : List (Option Nat)} (hk : E.2.2.2.1[k]? = some (3, n, rs)) : (jw_W E M)[k]? = some (E.2.2.1 k, .inl (E.2.1 k, n, .inr (.inr (.inr (.inr (fun i => (rs.getD i none).map E.2.2.1)))))) := by rw [jw_W_at (jw_lt hk), jw_cont_3 hk]
theorem jw_at_4 {k n : Nat} {rs : List (Option Nat)} (hk : E.2.2.2.1[k]? = some (4, n, rs)) : (jw_W E M)[k]? = some (E.2.2.1 k, .inl (E.2.1 k, n, .inr (.inr (.inr (.inr (fun i => (rs.getD i none).map E.2.2.1)))))) := by rw [jw_W_at (jw_lt hk), jw_cont_4 hk]
theorem jw_fs_at {rs : List (Option Nat)} {μ : Nat → Int32} {j : Nat} {r : Option Nat} (hr : rs[j]? = some r) : (jw_fs E rs μ)[j]? = some (jw_fv E μ j r) := by
  unfold jw_fs
  rw [List.getElem?_mapIdx, hr]
  rfl
theorem jw_fs_set {rs : List (Option Nat)} {μ : Nat → Int32} {j : Nat} {x : Int32} (hr : rs[j]? = some none) : (jw_fs E rs μ).set j (.int x) = jw_fs E rs (upd μ j x) := by
  apply List.ext_getElem?
  intro i
  unfold jw_fs
  rw [List.getElem?_mapIdx]
  by_cases hi : i = j
  · subst hi
    rw [List.getElem?_set_self (by rw [List.length_mapIdx]; exact (List.getElem?_eq_some_iff.mp hr).1), hr]
    simp [jw_fv, upd]
  · rw [List.getElem?_set_ne (Ne.symm hi), List.getElem?_mapIdx]
    cases rs[i]? with
    | none => rfl
    | some r => cases r <;> simp [jw_fv, upd, hi]
theorem jw_set_0 {k ci j : Nat} {rs : List (Option Nat)} {x : Int32} (hk : E.2.2.2.1[k]? = some (0, ci, rs)) (hr : rs[j]? = some none) : (jw_W E M).set k (E.2.2.1 k, .inr (ci, (jw_fs E rs (M k)).set j (.int x))) = jw_W E (jw_U M k j x) := by
  rw [jw_fs_set hr, ← jw_cont_0 (μ := upd (M k) j x) hk, jw_W_set _ (jw_lt hk)]
  rfl
theorem jw_set_1 {k n : Nat} {rs : List (Option Nat)} {μ : Nat → Int32} (hk : E.2.2.2.1[k]? = some (1, n, rs)) : (jw_W E M).set k (E.2.2.1 k, .inl (E.2.1 k, n, .inl μ)) = jw_W E (jw_UA M k μ) := by
  rw [← jw_cont_1 (μ := μ) hk, jw_W_set _ (jw_lt hk)]
theorem jw_set_2 {k n : Nat} {rs : List (Option Nat)} {μ : Nat → Int32} (hk : E.2.2.2.1[k]? = some (2, n, rs)) : (jw_W E M).set k (E.2.2.1 k, .inl (E.2.1 k, n, .inl μ)) = jw_W E (jw_UA M k μ) := by
  rw [← jw_cont_2 (μ := μ) hk, jw_W_set _ (jw_lt hk)]
/-- a class's row: its fields' words, their types, their names apart -/
def jw_okC (Cn : String) (T : u_T) (N : Nat) (ty : Nat → FieldType) : Prop := (∀ w ∈ u_ws Cn T N, w ∈ jw_ws) ∧ (∀ k, k < N → parseFieldDescriptor (T k).2.2.1 = some (ty k)) ∧ (∀ a, a < N → ∀ b, b < N → a ≠ b → (T a).2.1 ≠ (T b).2.1)
theorem jw_get {k ci j N idx : Nat} {rs : List (Option Nat)} {r : Option Nat} {Cn : String} {T : u_T} {ty : Nat → FieldType} {v : Value} (hd : decode f.2.1 pc = .ok (.getfield idx, 3)) (hk : E.2.2.2.1[k]? = some (0, ci, rs)) (hc : vwCl[ci]? = some (Cn, T, N)) (ok : jw_okC Cn T N ty) (hj : j < N) (hlink : Cond.fieldLink f.1.cls idx (T j).1 (T j).2.1 (T j).2.2.1 ∈ jw_ws) (hr : rs[j]? = some r) (hv : jw_fv E (M k) j r = v)
    (h : jw_X l X E A f (pc + 3) L (v :: S) M) : jw_X l X E A f pc L (.ref (E.2.2.1 k) :: S) M := by
  obtain ⟨p, e, R, s, m, args, below, meth, c, cells, slots, Q⟩ := X
  intro C H locs ls hP hS hl
  subst hv
  exact va_get (D := E.1) (ci := ci) (C := Cn) (T := T) (N := N) C.1 C.2.1 C.2.2.2.2.2.1 ok.1 C.2.2.2.2.1 (jw_K_0 C.2.2.2.2.2.2.2.1.1) hP k (jw_at_0 hk) hc j hj (C.2.2.2.2.2.1 _ hlink) (fun _ h9 => h9) (jw_fs_at hr) hd (h C H locs ls hP hS hl)
theorem jw_put {k ci j N idx : Nat} {rs : List (Option Nat)} {Cn : String} {T : u_T} {ty : Nat → FieldType} {x : Int32} (hd : decode f.2.1 pc = .ok (.putfield idx, 3)) (hk : E.2.2.2.1[k]? = some (0, ci, rs)) (hc : vwCl[ci]? = some (Cn, T, N)) (ok : jw_okC Cn T N ty) (hj : j < N) (hlink : Cond.fieldLink f.1.cls idx (T j).1 (T j).2.1 (T j).2.2.1 ∈ jw_ws) (hr : rs[j]? = some none) (hfin : (T j).2.2.2 = false) (hn : narrow (ty j) (.int x) = .int x) (hf : fits (ty j) (.int x) = true)
    (h : jw_X l X E A f (pc + 3) L S (jw_U M k j x)) : jw_X l X E A f pc L (.int x :: .ref (E.2.2.1 k) :: S) M := by
  obtain ⟨p, e, R, s, m, args, below, meth, c, cells, slots, Q⟩ := X
  intro C H locs ls hP hS hl
  refine va_put (D := E.1) (ci := ci) (C := Cn) (T := T) (N := N) C.1 C.2.1 C.2.2.2.2.2.1 ok.1 ty ok.2.1 ok.2.2 C.2.2.2.2.1 (jw_K_0 C.2.2.2.2.2.2.2.1.1) hP (jw_D_va C.2.2.2.2.2.2.2.1.2.2 M) hS k (jw_at_0 hk) hc j hj (C.2.2.2.2.2.1 _ hlink) (fun _ h9 => h9) hfin (ok.2.1 j hj) hn hf (by unfold jw_fs; rw [List.length_mapIdx]; exact (List.getElem?_eq_some_iff.mp hr).1) hd (fun H1 locs1 hP1 hD1 hS1 => ?_)
  rw [jw_set_0 hk hr] at hP1
  exact h C H1 locs1 ls hP1 hS1 hl
theorem jw_iald {k n : Nat} {rs : List (Option Nat)} {i : Int32} (hd : decode f.2.1 pc = .ok (.iaload, 1)) (hk : E.2.2.2.1[k]? = some (1, n, rs)) (hin : vp_in i n) (h : jw_X l X E A f (pc + 1) L (.int (M k i.toNatClampNeg) :: S) M) : jw_X l X E A f pc L (.int i :: .ref (E.2.2.1 k) :: S) M := by
  obtain ⟨p, e, R, s, m, args, below, meth, c, cells, slots, Q⟩ := X
  intro C H locs ls hP hS hl
  exact va_iald C.1 C.2.1 (jw_K_1 C.2.2.2.2.2.2.2.1.1 hk (by decide)) hP k 0 (jw_at_1 hk) rfl hin hd (h C H locs ls hP hS hl)
theorem jw_zald {k n : Nat} {rs : List (Option Nat)} {i : Int32} (hd : decode f.2.1 pc = .ok (.baload, 1)) (hk : E.2.2.2.1[k]? = some (2, n, rs)) (hin : vp_in i n) (h : jw_X l X E A f (pc + 1) L (.int (M k i.toNatClampNeg) :: S) M) : jw_X l X E A f pc L (.int i :: .ref (E.2.2.1 k) :: S) M := by
  obtain ⟨p, e, R, s, m, args, below, meth, c, cells, slots, Q⟩ := X
  intro C H locs ls hP hS hl
  exact va_zald C.1 C.2.1 (jw_K_1 C.2.2.2.2.2.2.2.1.1 hk (by decide)) hP k 0 (jw_at_2 hk) rfl hin hd (h C H locs ls hP hS hl)
theorem jw_iast {k n : Nat} {rs : List (Option Nat)} {i x : Int32} (hd : decode f.2.1 pc = .ok (.iastore, 1)) (hk : E.2.2.2.1[k]? = some (1, n, rs)) (hin : vp_in i n) (h : jw_X l X E A f (pc + 1) L S (jw_U M k i.toNatClampNeg x)) : jw_X l X E A f pc L (.int x :: .int i :: .ref (E.2.2.1 k) :: S) M := by
  obtain ⟨p, e, R, s, m, args, below, meth, c, cells, slots, Q⟩ := X
  intro C H locs ls hP hS hl
  refine va_iast C.1 C.2.1 (jw_K_1 C.2.2.2.2.2.2.2.1.1 hk (by decide)) hP (jw_D_va C.2.2.2.2.2.2.2.1.2.2 M) hS k 0 (jw_at_1 hk) rfl hin hd (fun H1 locs1 hP1 hD1 hS1 => ?_)
  rw [jw_set_1 hk] at hP1
  exact h C H1 locs1 ls hP1 hS1 hl
theorem jw_zast {k n : Nat} {rs : List (Option Nat)} {i x : Int32} (hd : decode f.2.1 pc = .ok (.bastore, 1)) (hk : E.2.2.2.1[k]? = some (2, n, rs)) (hin : vp_in i n) (hx : vp_nar .boolean x = x) (h : jw_X l X E A f (pc + 1) L S (jw_U M k i.toNatClampNeg x)) : jw_X l X E A f pc L (.int x :: .int i :: .ref (E.2.2.1 k) :: S) M := by
  obtain ⟨p, e, R, s, m, args, below, meth, c, cells, slots, Q⟩ := X
  intro C H locs ls hP hS hl
  refine va_zast C.1 C.2.1 (jw_K_1 C.2.2.2.2.2.2.2.1.1 hk (by decide)) hP (jw_D_va C.2.2.2.2.2.2.2.1.2.2 M) hS k 0 (jw_at_2 hk) rfl hin hd (fun H1 locs1 hP1 hD1 hS1 => ?_)
  rw [hx, jw_set_2 hk] at hP1
  exact h C H1 locs1 ls hP1 hS1 hl
theorem jw_aald3 {k n t : Nat} {rs : List (Option Nat)} {i : Int32} (hd : decode f.2.1 pc = .ok (.aaload, 1)) (hk : E.2.2.2.1[k]? = some (3, n, rs)) (hin : vp_in i n) (ht : rs[i.toNatClampNeg]? = some (some t)) (h : jw_X l X E A f (pc + 1) L (.ref (E.2.2.1 t) :: S) M) : jw_X l X E A f pc L (.int i :: .ref (E.2.2.1 k) :: S) M := by
  obtain ⟨p, e, R, s, m, args, below, meth, c, cells, slots, Q⟩ := X
  intro C H locs ls hP hS hl
  refine va_aldq (C := "VersionRing$Node") C.1 C.2.1 (jw_K_1 C.2.2.2.2.2.2.2.1.1 hk (by decide)) hP k 0 (jw_at_3 hk) rfl hin hd ?_
  rw [List.getD_eq_getElem?_getD, ht]
  exact h C H locs ls hP hS hl
theorem jw_aald4 {k n t : Nat} {rs : List (Option Nat)} {i : Int32} (hd : decode f.2.1 pc = .ok (.aaload, 1)) (hk : E.2.2.2.1[k]? = some (4, n, rs)) (hin : vp_in i n) (ht : rs[i.toNatClampNeg]? = some (some t)) (h : jw_X l X E A f (pc + 1) L (.ref (E.2.2.1 t) :: S) M) : jw_X l X E A f pc L (.int i :: .ref (E.2.2.1 k) :: S) M := by
  obtain ⟨p, e, R, s, m, args, below, meth, c, cells, slots, Q⟩ := X
  intro C H locs ls hP hS hl
  refine va_aldq (C := "VersionRing$Context") C.1 C.2.1 (jw_K_1 C.2.2.2.2.2.2.2.1.1 hk (by decide)) hP k 0 (jw_at_4 hk) rfl hin hd ?_
  rw [List.getD_eq_getElem?_getD, ht]
  exact h C H locs ls hP hS hl
theorem jw_alen1 {k n : Nat} {rs : List (Option Nat)} (hd : decode f.2.1 pc = .ok (.arraylength, 1)) (hk : E.2.2.2.1[k]? = some (1, n, rs)) (h : jw_X l X E A f (pc + 1) L (.int (Int32.ofNat n) :: S) M) : jw_X l X E A f pc L (.ref (E.2.2.1 k) :: S) M := by
  obtain ⟨p, e, R, s, m, args, below, meth, c, cells, slots, Q⟩ := X
  intro C H locs ls hP hS hl
  exact va_alen (ty := .int) C.1 C.2.1 (jw_K_1 C.2.2.2.2.2.2.2.1.1 hk (by decide)) hP k 0 (jw_at_1 hk) rfl rfl hd (h C H locs ls hP hS hl)
theorem jw_getstatic {t idx : Nat} (hd : decode f.2.1 pc = .ok (.getstatic idx, 3)) (ht : E.2.2.2.2 = some t) (hlink : Cond.fieldLink f.1.cls idx "VersionRing" "NOTHING_KNOWN" "[I" ∈ jw_ws) (h : jw_X l X E A f (pc + 3) L (.ref t :: S) M) : jw_X l X E A f pc L S M := by
  obtain ⟨p, e, R, s, m, args, below, meth, c, cells, slots, Q⟩ := X
  intro C H locs ls hP hS hl
  exact va_gets C.1 C.2.1 (C.2.2.2.2.2.2.2.1.2.1 t ht).1 hS C.2.2.2.2.1 (C.2.2.2.2.2.1 _ hlink) (fun _ h9 => h9) hd (h C H locs ls hP hS hl)
theorem jw_tableOut {dflt lo hi : Int} {offs : Array Int} {len tgt : Nat} {x : Int32} (hd : decode f.2.1 pc = .ok (.tableswitch dflt lo hi offs, len)) (hx : x.toInt < lo ∨ hi < x.toInt) (ht : (pc : Int) + dflt = (tgt : Int)) (h : jw_X l X E A f tgt L S M) : jw_X l X E A f pc L (.int x :: S) M := by
  obtain ⟨p, e, R, s, m, args, below, meth, c, cells, slots, Q⟩ := X
  intro C H locs ls hP hS hl
  exact lv_tableOut C.1 C.2.1 hd hx ht (h C H locs ls hP hS hl)
theorem jw_tableIn {dflt lo hi off : Int} {offs : Array Int} {len tgt : Nat} {x : Int32} (hd : decode f.2.1 pc = .ok (.tableswitch dflt lo hi offs, len)) (h1 : ¬ x.toInt < lo) (h2 : ¬ hi < x.toInt) (ho : offs[(x.toInt - lo).toNat]? = some off) (ht : (pc : Int) + off = (tgt : Int)) (h : jw_X l X E A f tgt L S M) : jw_X l X E A f pc L (.int x :: S) M := by
  obtain ⟨p, e, R, s, m, args, below, meth, c, cells, slots, Q⟩ := X
  intro C H locs ls hP hS hl
  exact lv_tableIn C.1 C.2.1 hd h1 h2 ho ht (h C H locs ls hP hS hl)
/-- the law's script -/
def jw_scr (X : jw_X0) (A : Nat → Prop) (b n : Nat) (xs : Nat → Int32) : Prop := va_X b n xs X.2.2.2.1 X.2.2.2.1.heap ∧ b < X.2.2.2.1.heap.size ∧ ¬ A b
theorem jw_sld {b n : Nat} {xs : Nat → Int32} {i : Int32} (hd : decode f.2.1 pc = .ok (.iaload, 1)) (hX : jw_scr X A b n xs) (hin : vp_in i n) (h : jw_X l X E A f (pc + 1) L (.int (xs i.toNatClampNeg) :: S) M) : jw_X l X E A f pc L (.int i :: .ref b :: S) M := by
  obtain ⟨p, e, R, s, m, args, below, meth, c, cells, slots, Q⟩ := X
  intro C H locs ls hP hS hl
  exact va_sld C.1 C.2.1 hX.1 hX.2.1 hX.2.2 hS hin hd (h C H locs ls hP hS hl)
theorem jw_slen {b n : Nat} {xs : Nat → Int32} (hd : decode f.2.1 pc = .ok (.arraylength, 1)) (hX : jw_scr X A b n xs) (h : jw_X l X E A f (pc + 1) L (.int (Int32.ofNat n) :: S) M) : jw_X l X E A f pc L (.ref b :: S) M := by
  obtain ⟨p, e, R, s, m, args, below, meth, c, cells, slots, Q⟩ := X
  intro C H locs ls hP hS hl
  exact va_slen C.1 C.2.1 hX.1 hX.2.1 hX.2.2 hS hd (h C H locs ls hP hS hl)
theorem jw_mmin {x y : Int32} {idx : Nat} (hd : decode f.2.1 pc = .ok (.invokestatic idx, 3)) (h1 : Cond.methodLink f.1.cls idx Lib.Math.min.name ∈ jw_ws) (h2 : Cond.static Lib.Math.min.name ∈ jw_ws) (h3 : Cond.initialized "java/lang/Math" ∈ jw_ws) (h4 : Cond.code Lib.Math.min.name Lib.Math.min.code 2 (some .int) ∈ jw_ws) (h5 : 1 ≤ f.2.2.2.2.1 ∧ 21 ≤ f.2.2.2.2.2) (h6 : (S.map fun v => v.category).sum ≤ 8) (h : jw_X l X E A f (pc + 3) L (.int (if y < x then y else x) :: S) M) : jw_X l X E A f pc L (.int y :: .int x :: S) M := by
  obtain ⟨p, e, R, s, m, args, below, meth, c, cells, slots, Q⟩ := X
  intro C H locs ls hP hS hl
  have hR := C.2.2.2.2.2.2.2.2
  exact va_mmin C.1 C.2.1 (C.2.2.2.1.trans hl.1.symm) C.2.2.2.2.1 (C.2.2.2.2.2.1 _ h1) (C.2.2.2.2.2.1 _ h2) (C.2.2.2.2.2.1 _ h3) (C.2.2.2.2.2.1 _ h4) (Nat.le_trans h5.1 hR.1) (by have := hR.2.1; have := h5.2; omega) hR.2.2.1 hR.2.2.2 hd (h C H locs ls hP hS hl)
theorem jw_mmax {x y : Int32} {idx : Nat} (hd : decode f.2.1 pc = .ok (.invokestatic idx, 3)) (h1 : Cond.methodLink f.1.cls idx Lib.Math.max.name ∈ jw_ws) (h2 : Cond.static Lib.Math.max.name ∈ jw_ws) (h3 : Cond.initialized "java/lang/Math" ∈ jw_ws) (h4 : Cond.code Lib.Math.max.name Lib.Math.max.code 2 (some .int) ∈ jw_ws) (h5 : 1 ≤ f.2.2.2.2.1 ∧ 21 ≤ f.2.2.2.2.2) (h6 : (S.map fun v => v.category).sum ≤ 8) (h : jw_X l X E A f (pc + 3) L (.int (if x < y then y else x) :: S) M) : jw_X l X E A f pc L (.int y :: .int x :: S) M := by
  obtain ⟨p, e, R, s, m, args, below, meth, c, cells, slots, Q⟩ := X
  intro C H locs ls hP hS hl
  have hR := C.2.2.2.2.2.2.2.2
  exact va_mmax C.1 C.2.1 (C.2.2.2.1.trans hl.1.symm) C.2.2.2.2.1 (C.2.2.2.2.2.1 _ h1) (C.2.2.2.2.2.1 _ h2) (C.2.2.2.2.2.1 _ h3) (C.2.2.2.2.2.1 _ h4) (Nat.le_trans h5.1 hR.1) (by have := hR.2.1; have := h5.2; omega) hR.2.2.1 hR.2.2.2 hd (h C H locs ls hP hS hl)
/-- a callee's words -/
def jw_ok (own : String) (idx : Nat) (g : jw_F) (n : Nat) : Prop := Cond.methodLink own idx g.1 ∈ jw_ws ∧ Cond.initialized g.1.cls ∈ jw_ws ∧ Cond.code g.1 g.2.1 g.2.2.1 g.2.2.2.1 ∈ jw_ws ∧ (g.1.cls ≠ "java/lang/invoke/MethodHandle" ∧ g.1.cls ≠ "java/lang/invoke/VarHandle" ∧ (parseMethodDescriptor g.1.desc).map (fun d => d.parameters.length) = some n)
def jw_pu (ret : Option FieldType) (r : Int32) : List Value := match ret with
  | none => []
  | some _ => [.int r]
theorem jw_good {g : jw_F} (h : Cond.code g.1 g.2.1 g.2.2.1 g.2.2.2.1 ∈ jw_ws) : GoodIn jw_ws (jw_w g) := by
  intro w hw
  rcases List.mem_cons.mp hw with rfl | hw
  · exact ⟨h, Or.inl rfl⟩
  · exact ⟨hw, good_of_word (List.mem_filter.mp hw).2⟩
theorem jw_blind {As : List Value} : FrameBlind (va_Pc As (jw_I E A M)) := fun a U g mk q => by
  obtain ⟨q0, qP, qK, qZ, qD⟩ := q
  exact ⟨q0, qP, jw_K_moved (u := U) (U := U.calling g mk a) (Vm.Alike.refl U.vm) qK, jw_Z_moved (u := U) (U := U.calling g mk a) (Vm.Alike.refl U.vm) qZ, qD⟩
theorem jw_pre {s : State} {H : Heap} {locs : List Loc} {As : List Value} (hx : jw_S E A s) (hP : va_P E.1 vwCl (jw_W E M) H) (hS : va_S A s.heap H locs) {U : State} (hU : U.heap = H) (hW : s.WarmedH U.vm) : va_Pc As (jw_I E A M) As.toArray U := by
  refine ⟨rfl, by rw [hU]; exact hP, jw_K_moved hW.alike hx.1, ?_, hx.2.2⟩
  rw [hU]
  exact jw_Z_moved hW.alike (jw_Z_kept hx.2.1 hS.2.1)
/-- behind a call -/
theorem jw_back {g : jw_F} {p : Program} {e : Env} {R : Room} {s : State} {m : MethodId} {args a : Array Value} {below : List Frame} {meth : Method} {c : Code} {cells slots : Nat} {Q : State → Prop} {H : Heap} {locs : List Loc} {ls : Array Slot} {st0 : List Value} {T : Int32 → jw_Mem → Prop}
    (hr : va_Run p l e R s m args below meth c H locs cells slots 0 0 (F0 m pc ls st0) S (jw_Q E A g.2.2.2.1 T a) A) (hS : va_S A s.heap H locs)
    (kk : ∀ (r : Int32) (M' : jw_Mem) (H1 : Heap) (locs1 : List Loc), T r M' → va_P E.1 vwCl (jw_W E M') H1 → va_S A s.heap H1 locs1 → W p l e R s m args below meth c H1 locs1 cells slots Q (F0 m (pc + 3) ls (jw_pu g.2.2.2.1 r ++ S))) : W p l e R s m args below meth c H locs cells slots Q (F0 m pc ls st0) := by
  obtain ⟨y, bytes, maxL, ret, dep, loc⟩ := g
  cases ret with
  | none => exact va_callv (a := a) (post := fun M => T 0 M) (B := jw_B E) hr hS (fun _ _ h => h) (fun _ h => h) (fun u t H1 locs1 ht hvm hp hB hz hk hS1 => kk 0 u H1 locs1 hp (by have h2 : va_P E.1 vwCl (jw_W E u) t.heap := hB; rw [ht] at h2; exact h2) hS1)
  | some ty => exact va_calli (a := a) (post := T) (B := jw_B E) hr hS (fun _ _ h => h) (fun _ h => h) (fun r u t H1 locs1 ht hvm hp hB hz hk hS1 => kk r u H1 locs1 hp (by have h2 : va_P E.1 vwCl (jw_W E u) t.heap := hB; rw [ht] at h2; exact h2) hS1)
theorem jw_callV {g : jw_F} {k ci idx n N : Nat} {rs : List (Option Nat)} {T : u_T} {As St : List Value} (hd : decode f.2.1 pc = .ok (.invokevirtual idx, 3)) (hk : E.2.2.2.1[k]? = some (0, ci, rs)) (hc : vwCl[ci]? = some (g.1.cls, T, N)) (ok : jw_ok f.1.cls idx g n) (hi : Cond.instanceMethod g.1 ∈ jw_ws) (hs : Cond.selects g.1.cls g.1 g.1 ∈ jw_ws) (hdep : g.2.2.2.2.1 < f.2.2.2.2.1 ∧ 8 + (g.2.2.1 + 11) + g.2.2.2.2.2 ≤ f.2.2.2.2.2) (hn : As.length = n) (hst : St = As.reverse ++ .ref (E.2.2.1 k) :: S) (h8 : (S.map fun v => v.category).sum ≤ 8)
    (h : jw_M l E A g (.ref (E.2.2.1 k) :: As) M (fun r M' => jw_X l X E A f (pc + 3) L (jw_pu g.2.2.2.1 r ++ S) M')) : jw_X l X E A f pc L St M := by
  obtain ⟨p, e, R, s, m, args, below, meth, c, cells, slots, Q⟩ := X
  intro C H locs ls hP hS hl
  have hR := C.2.2.2.2.2.2.2.2
  have hts := C.2.2.2.2.2.1
  have hrun := va_runV (cells := cells) (slots := slots) (e := e) (below := below) (meth := meth) (locs := locs) (g := F0 m pc ls St) (rest := S) (Ts := jw_ws) (own := f.1.cls) (C := g.1.cls) ⟨C.1, C.2.1, C.2.2.2.1, C.2.2.2.2.1, hts⟩ h
    ⟨callB_of n hts (jw_good ok.2.2.1) rfl rfl rfl (hts _ ok.2.1) (hts _ ok.1) ok.2.2.2 ⟨Nat.le_trans hdep.1 hR.1, Nat.le_trans hdep.2 hR.2.1⟩, hts _ hi, hts _ hs⟩
    ⟨jw_blind, va_recv (jw_K_0 C.2.2.2.2.2.2.2.1.1) hP hc (jw_at_0 hk), fun U hU hW => jw_pre C.2.2.2.2.2.2.2.1 hP hS hU hW⟩ rfl hn hl.1 hst (lv_room h8) hd ⟨hR.2.2.1, hR.2.2.2⟩
  exact jw_back hrun hS (fun r M' H1 locs1 hT hP1 hS1 => hT C H1 locs1 ls hP1 hS1 hl)
theorem jw_callS {g : jw_F} {idx n : Nat} {As St : List Value} (hd : decode f.2.1 pc = .ok (.invokestatic idx, 3)) (ok : jw_ok f.1.cls idx g n) (hi : Cond.static g.1 ∈ jw_ws) (hdep : g.2.2.2.2.1 < f.2.2.2.2.1 ∧ 8 + (g.2.2.1 + 11) + g.2.2.2.2.2 ≤ f.2.2.2.2.2) (hn : As.length = n) (hst : St = As.reverse ++ S) (h8 : (S.map fun v => v.category).sum ≤ 8)
    (h : jw_M l E A g As M (fun r M' => jw_X l X E A f (pc + 3) L (jw_pu g.2.2.2.1 r ++ S) M')) : jw_X l X E A f pc L St M := by
  obtain ⟨p, e, R, s, m, args, below, meth, c, cells, slots, Q⟩ := X
  intro C H locs ls hP hS hl
  have hR := C.2.2.2.2.2.2.2.2
  have hts := C.2.2.2.2.2.1
  have hrun := va_runS (cells := cells) (slots := slots) (e := e) (below := below) (meth := meth) (locs := locs) (g := F0 m pc ls St) (rest := S) (Ts := jw_ws) (own := f.1.cls) ⟨C.1, C.2.1, C.2.2.2.1, C.2.2.2.2.1, hts⟩ h
    ⟨callB_of n hts (jw_good ok.2.2.1) rfl rfl rfl (hts _ ok.2.1) (hts _ ok.1) ok.2.2.2 ⟨Nat.le_trans hdep.1 hR.1, Nat.le_trans hdep.2 hR.2.1⟩, hts _ hi⟩
    ⟨jw_blind, fun U hU hW => jw_pre C.2.2.2.2.2.2.2.1 hP hS hU hW⟩ rfl hn hl.1 hst (lv_room h8) hd ⟨hR.2.2.1, hR.2.2.2⟩
  exact jw_back hrun hS (fun r M' H1 locs1 hT hP1 hS1 => hT C H1 locs1 ls hP1 hS1 hl)
/-- System.arraycopy from a cell of the world, or from the static row -/
theorem jw_copy {k0 k1 n0 n1 idx : Nat} {rs0 rs1 : List (Option Nat)} {sp dp n : Int32} (hd : decode f.2.1 pc = .ok (.invokestatic idx, 3)) (w1 : Cond.methodLink f.1.cls idx arraycopyName ∈ jw_ws) (w2 : Cond.native arraycopyName ∈ jw_ws) (w3 : Cond.static arraycopyName ∈ jw_ws) (w4 : Cond.initialized "java/lang/System" ∈ jw_ws) (hk0 : E.2.2.2.1[k0]? = some (1, n0, rs0)) (hk1 : E.2.2.2.1[k1]? = some (1, n1, rs1)) (h1 : ¬ sp < 0) (h2 : ¬ dp < 0) (h3 : ¬ n < 0) (h4 : sp.toNatClampNeg + n.toNatClampNeg ≤ n0) (h5 : dp.toNatClampNeg + n.toNatClampNeg ≤ n1) (h6 : 1 ≤ f.2.2.2.2.1 ∧ 26 ≤ f.2.2.2.2.2) (h8 : (S.map fun v => v.category).sum ≤ 8)
    (h : jw_X l X E A f (pc + 3) L S (jw_UA M k1 (va_cpy (M k0) (M k1) sp.toNatClampNeg dp.toNatClampNeg n.toNatClampNeg))) : jw_X l X E A f pc L (.int n :: .int dp :: .ref (E.2.2.1 k1) :: .int sp :: .ref (E.2.2.1 k0) :: S) M := by
  obtain ⟨p, e, R, s, m, args, below, meth, c, cells, slots, Q⟩ := X
  intro C H locs ls hP hS hl
  have hR := C.2.2.2.2.2.2.2.2
  have hts := C.2.2.2.2.2.1
  have hw : (S.map fun v => v.category).sum + (nativeFrameWords "java/lang/System" "arraycopy" 5 + 11) ≤ R.locals := by
    have h9 : nativeFrameWords "java/lang/System" "arraycopy" 5 = 7 := by decide +kernel
    rw [h9]
    have := hR.2.1
    have := h6.2
    omega
  refine va_copyi (ty := .int) C.1 C.2.1 (C.2.2.2.1.trans hl.1.symm) C.2.2.2.2.1 (hts _ w1) (hts _ w2) (hts _ w3) (hts _ w4) (jw_K_2 C.2.2.2.2.2.2.2.1.1 hk0 (by decide) hk1 (by decide)) hP (jw_D_va C.2.2.2.2.2.2.2.1.2.2 M) hS k0 k1 0 1 (jw_at_1 hk0) (jw_at_1 hk1) rfl rfl rfl h1 h2 h3 h4 h5 (fun _ _ => rfl) (Nat.le_trans h6.1 hR.1) hw hd (fun H1 locs1 hP1 hD1 hS1 => ?_)
  rw [jw_set_1 hk1] at hP1
  exact h C H1 locs1 ls hP1 hS1 hl
end JR
/-! Rules with plain numbers as places; the world of the two systems. -/
section JR2
variable {l : Launch} {X : jw_X0} {E : jw_E} {A : Nat → Prop} {f : jw_F} {pc : Nat} {L : List (Option Value)} {S : List Value} {M : jw_Mem}
theorem jw_cl {j n : Nat} {i : Int32} (hn : n < 2147483648) (h : j < n ∧ i = nI j) : i.toNatClampNeg = j := by
  rw [h.2]
  exact nI_clamp (by omega)
theorem jw_inb {j n : Nat} {i : Int32} (hn : n < 2147483648) (h : j < n ∧ i = nI j) : vp_in i n := by
  rw [h.2]
  exact vp_in_nI h.1 (by omega)
theorem jw_iald2 {k n j : Nat} {rs : List (Option Nat)} {i : Int32} (hd : decode f.2.1 pc = .ok (.iaload, 1)) (hk : E.2.2.2.1[k]? = some (1, n, rs)) (hn : n < 2147483648) (hj : j < n ∧ i = nI j) (h : jw_X l X E A f (pc + 1) L (.int (M k j) :: S) M) : jw_X l X E A f pc L (.int i :: .ref (E.2.2.1 k) :: S) M := jw_iald hd hk (jw_inb hn hj) (by rw [jw_cl hn hj]; exact h)
theorem jw_zald2 {k n j : Nat} {rs : List (Option Nat)} {i : Int32} (hd : decode f.2.1 pc = .ok (.baload, 1)) (hk : E.2.2.2.1[k]? = some (2, n, rs)) (hn : n < 2147483648) (hj : j < n ∧ i = nI j) (h : jw_X l X E A f (pc + 1) L (.int (M k j) :: S) M) : jw_X l X E A f pc L (.int i :: .ref (E.2.2.1 k) :: S) M := jw_zald hd hk (jw_inb hn hj) (by rw [jw_cl hn hj]; exact h)
theorem jw_iast2 {k n j : Nat} {rs : List (Option Nat)} {i x : Int32} (hd : decode f.2.1 pc = .ok (.iastore, 1)) (hk : E.2.2.2.1[k]? = some (1, n, rs)) (hn : n < 2147483648) (hj : j < n ∧ i = nI j) (h : jw_X l X E A f (pc + 1) L S (jw_U M k j x)) : jw_X l X E A f pc L (.int x :: .int i :: .ref (E.2.2.1 k) :: S) M := jw_iast hd hk (jw_inb hn hj) (by rw [jw_cl hn hj]; exact h)
theorem jw_b0 : (0 : Int32) = 0 ∨ (0 : Int32) = 1 := Or.inl rfl
theorem jw_b1 : (1 : Int32) = 0 ∨ (1 : Int32) = 1 := Or.inr rfl
theorem jw_nz {x : Int32} (h : x = 0 ∨ x = 1) : vp_nar .boolean x = x := by rcases h with rfl | rfl <;> decide
theorem jw_nb {x : Int32} (h : x = 0 ∨ x = 1) : narrow .boolean (.int x) = .int x := by rcases h with rfl | rfl <;> rfl
theorem jw_fb {x : Int32} (h : x = 0 ∨ x = 1) : fits .boolean (.int x) = true := by rcases h with rfl | rfl <;> rfl
theorem jw_zast2 {k n j : Nat} {rs : List (Option Nat)} {i x : Int32} (hd : decode f.2.1 pc = .ok (.bastore, 1)) (hk : E.2.2.2.1[k]? = some (2, n, rs)) (hn : n < 2147483648) (hj : j < n ∧ i = nI j) (hx : x = 0 ∨ x = 1) (h : jw_X l X E A f (pc + 1) L S (jw_U M k j x)) : jw_X l X E A f pc L (.int x :: .int i :: .ref (E.2.2.1 k) :: S) M := jw_zast hd hk (jw_inb hn hj) (jw_nz hx) (by rw [jw_cl hn hj]; exact h)
theorem jw_sld2 {b n j : Nat} {xs : Nat → Int32} {i : Int32} (hd : decode f.2.1 pc = .ok (.iaload, 1)) (hX : jw_scr X A b n xs) (hj : j < n ∧ n < 2147483648 ∧ i = nI j) (h : jw_X l X E A f (pc + 1) L (.int (xs j) :: S) M) : jw_X l X E A f pc L (.int i :: .ref b :: S) M := jw_sld hd hX (jw_inb hj.2.1 ⟨hj.1, hj.2.2⟩) (by rw [jw_cl hj.2.1 ⟨hj.1, hj.2.2⟩]; exact h)
theorem jw_copy2 {k0 k1 n1 idx j : Nat} {rs0 rs1 : List (Option Nat)} {dp : Int32} (hd : decode f.2.1 pc = .ok (.invokestatic idx, 3)) (w1 : Cond.methodLink f.1.cls idx arraycopyName ∈ jw_ws) (w2 : Cond.native arraycopyName ∈ jw_ws) (w3 : Cond.static arraycopyName ∈ jw_ws) (w4 : Cond.initialized "java/lang/System" ∈ jw_ws) (hk0 : E.2.2.2.1[k0]? = some (1, 5, rs0)) (hk1 : E.2.2.2.1[k1]? = some (1, n1, rs1)) (hn : n1 < 2147483648) (hj : j + 5 ≤ n1 ∧ dp = nI j) (h6 : 1 ≤ f.2.2.2.2.1 ∧ 26 ≤ f.2.2.2.2.2) (h8 : (S.map fun v => v.category).sum ≤ 8)
    (h : jw_X l X E A f (pc + 3) L S (jw_UA M k1 (va_cpy (M k0) (M k1) 0 j 5))) : jw_X l X E A f pc L (.int 5 :: .int dp :: .ref (E.2.2.1 k1) :: .int 0 :: .ref (E.2.2.1 k0) :: S) M := by
  have e1 : dp.toNatClampNeg = j := by rw [hj.2]; exact nI_clamp (by omega)
  have e2 : (0 : Int32).toNatClampNeg = 0 := by decide
  have e3 : (5 : Int32).toNatClampNeg = 5 := by decide
  refine jw_copy hd w1 w2 w3 w4 hk0 hk1 (by decide) (by rw [hj.2]; exact nI_pos (by omega)) (by decide) (by rw [e2, e3]; exact Nat.le_refl 5) (by rw [e1, e3]; exact hj.1) h6 h8 ?_
  rw [e1, e2, e3]
  exact h
theorem jw_st {S' : List Value} (e : S = S') (h : jw_X l X E A f pc L S' M) : jw_X l X E A f pc L S M := by rw [e]; exact h
theorem jw_forget (i : Nat) (h : jw_X l X E A f pc (L.set i none) S M) : jw_X l X E A f pc L S M := by
  obtain ⟨p, e, R, s, m, args, below, meth, c, cells, slots, Q⟩ := X
  intro C H locs ls hP hS hl
  refine h C H locs ls hP hS ⟨hl.1, hl.2.1, fun j v hj => hl.2.2 j v ?_⟩
  by_cases e : j = i
  · subst e
    have hlt : j < (L.set j none).length := (List.getElem?_eq_some_iff.mp hj).1
    rw [List.length_set] at hlt
    rw [List.getElem?_set_self hlt] at hj
    cases hj
  · rw [List.getElem?_set_ne (Ne.symm e)] at hj
    exact hj
end JR2
/-- what is not the table of the cells: class numbers and slots, class number of each array cell, addresses, the static row -/
abbrev jw_G : Type := va_G × (Nat → ClassId) × (Nat → Nat) × Nat
section JR3
variable {l : Launch} {X : jw_X0} {E : jw_E} {A : Nat → Prop} {f : jw_F} {pc : Nat} {L : List (Option Value)} {S : List Value} {M : jw_Mem}
theorem jw_pos {z : Int32} (h : ¬ z < 0) : z.toInt = (z.toNatClampNeg : Int) := by
  have h1 := Int32.le_iff_toInt_le.mp (Int32.not_lt.mp h)
  have h2 : (0 : Int32).toInt = 0 := by decide
  show z.toInt = ((z.toInt.toNat : Nat) : Int)
  omega
/-- System.arraycopy of five ints from the static row -/
theorem jw_copyZ2 {t k1 n1 idx j : Nat} {rs1 : List (Option Nat)} {dp : Int32} (hd : decode f.2.1 pc = .ok (.invokestatic idx, 3)) (w1 : Cond.methodLink f.1.cls idx arraycopyName ∈ jw_ws) (w2 : Cond.native arraycopyName ∈ jw_ws) (w3 : Cond.static arraycopyName ∈ jw_ws) (w4 : Cond.initialized "java/lang/System" ∈ jw_ws) (ht : E.2.2.2.2 = some t) (hk1 : E.2.2.2.1[k1]? = some (1, n1, rs1)) (hn : n1 < 2147483648) (hj : j + 5 ≤ n1 ∧ dp = nI j) (h6 : 1 ≤ f.2.2.2.2.1 ∧ 26 ≤ f.2.2.2.2.2) (h8 : (S.map fun v => v.category).sum ≤ 8)
    (h : jw_X l X E A f (pc + 3) L S (jw_UA M k1 (va_cpy (fun _ => 0) (M k1) 0 j 5))) : jw_X l X E A f pc L (.int 5 :: .int dp :: .ref (E.2.2.1 k1) :: .int 0 :: .ref t :: S) M := by
  obtain ⟨p, e, R, s, m, args, below, meth, c, cells, slots, Q⟩ := X
  intro C H locs ls hP hS hl
  have hR := C.2.2.2.2.2.2.2.2
  have hts := C.2.2.2.2.2.1
  have hS8 := C.2.2.2.2.2.2.2.1
  have e1 : dp.toNatClampNeg = j := by rw [hj.2]; exact nI_clamp (by omega)
  have e2 : (0 : Int32).toNatClampNeg = 0 := by decide
  have e3 : (5 : Int32).toNatClampNeg = 5 := by decide
  have hdp : ¬ dp < 0 := by rw [hj.2]; exact nI_pos (by omega)
  have i0 : (0 : Int32).toInt = 0 := by decide
  have i5 : (5 : Int32).toInt = 5 := by decide
  have ij : dp.toInt = (j : Int) := by rw [jw_pos hdp, e1]
  obtain ⟨scr, hs1, ⟨hs2, k0, hk0, cm0, hkk0⟩, hs3, hs4, -, hs6, hs7⟩ := (hS8.2.1 t ht).2
  have hK := jw_K_1 hS8.1 hk1 (by decide)
  have hD := jw_D_va hS8.2.2 M
  have ha1 := jw_at_1 (M := M) hk1
  have hc0 : H[t]? = some scr := by rw [hS.2.1 t (Array.getElem?_eq_some_iff.mp hs1).1 hs7]; exact hs1
  have hc1 : H[E.2.2.1 k1]? = some (vp_cell (E.2.1 k1) (n1, .inl (M k1))) := hP k1 _ ha1
  obtain ⟨-, kk1, hkk1, cm1, hkind1⟩ := (hK.2 0 _ rfl).1 n1 (fun i => .int (M k1 i))
  have h9 : nativeFrameWords "java/lang/System" "arraycopy" 5 = 7 := by decide +kernel
  intro T hT Y
  obtain ⟨vm', Y', step⟩ := Y.arraycopy C.1 C.2.2.2.2.1 (hts _ w1) (hts _ w2) (hts _ w3) (hts _ w4) (src := t) (dst := E.2.2.1 k1) (cs := scr) (cd := vp_cell (E.2.1 k1) (n1, .inl (M k1))) (srcPos := 0) (destPos := dp) (n := 5) (by rw [hT]; exact hc0) (by rw [hT]; exact hc1)
    hs2 (fun _ h => by cases h) hs3 (fun h => by cases h) hk0 hkk1 hkk0 hkind1 (by simp [refKind, jw_ty]) (by decide) hdp (by decide)
    (by rw [i0, i5]; omega)
    (by rw [ij, i5]; show ¬ _ > ((arrV (E.2.1 k1) n1 (fun i => .int (M k1 i))).slots.size : Int); rw [arrV_size]; omega)
    (fun vm₁ _ i hi => by
      rw [e3] at hi
      have ee : scr.slots.getD ((0 : Int32).toNatClampNeg + i) .null = .int 0 := by
        rw [Array.getD_eq_getD_getElem?, e2, Nat.zero_add, hs6 i hi]
        rfl
      refine ⟨?_, ?_⟩
      · rw [ee]; rfl
      · rw [ee]; exact trivial)
    (g := F0 m pc ls (.int 5 :: .int dp :: .ref (E.2.2.1 k1) :: .int 0 :: .ref t :: S)) rfl (hl.1.trans C.2.2.2.1.symm) (rest := S) rfl (by rw [C.2.1]; exact hd) (Nat.le_trans h6.1 hR.1) (by rw [h9]; show 2 * 0 + _ + _ ≤ _; have := hR.2.1; have := h6.2; omega)
  have ec : copied scr (vp_cell (E.2.1 k1) (n1, .inl (M k1))) 0 dp 5 = vp_cell (E.2.1 k1) (n1, .inl (va_cpy (fun _ => 0) (M k1) 0 j 5)) := by
    have := va_copiedX (fun z => Value.int z) scr (E.2.1 k1) (n0 := 5) (n1 := n1) (sp := (0 : Int32).toNatClampNeg) (dp := dp.toNatClampNeg) (n := (5 : Int32).toNatClampNeg) (fun _ => 0) (M k1) hs6 (by rw [e2, e3]; omega)
    rw [e1, e2, e3] at this
    unfold copied
    rw [e1, e2, e3]
    exact this
  rw [ec] at Y' step
  have hlt : E.2.2.1 k1 < H.size := (Array.getElem?_eq_some_iff.mp hc1).1
  have oq : ∀ q : Nat, q ≠ E.2.2.1 k1 → (H.setIfInBounds (E.2.2.1 k1) (vp_cell (E.2.1 k1) (n1, .inl (va_cpy (fun _ => 0) (M k1) 0 j 5))))[q]? = H[q]? := fun q hq => by simp [Array.getElem?_setIfInBounds, Ne.symm hq]
  have hP1 := hP.set hD ha1 (e := .inl (E.2.1 k1, n1, .inl (va_cpy (fun _ => 0) (M k1) 0 j 5))) (show (H.setIfInBounds (E.2.2.1 k1) (vp_cell (E.2.1 k1) (n1, .inl (va_cpy (fun _ => 0) (M k1) 0 j 5))))[E.2.2.1 k1]? = some _ by simp [Array.getElem?_setIfInBounds, hlt]) oq
  rw [jw_set_1 hk1] at hP1
  obtain ⟨t9, a1, b1⟩ := h C _ _ ls hP1 ⟨by simp; exact hS.1, fun q g1 g2 => by
      rw [oq q (fun e => g2 (by rw [e]; exact hD.2 k1 _ ha1))]
      exact hS.2.1 q g1 g2, fun q hq => by
      rcases List.mem_append.mp hq with h | h
      · exact hS.2.2 q h
      · obtain ⟨z, -, hz⟩ := List.mem_map.mp h
        rw [← hz]
        exact hD.2 k1 _ ha1⟩ hl _ (by rw [← hT]; rfl) Y'
  exact ⟨t9, step t9 a1, b1⟩
end JR3
end
section
/-! The cells of the two systems: 0 the class, 1 its ring (2 owners, 3 list), 4 its log (5 keys, 6 values, 7 authors, 8 clocks), 9 nodes, 10 + 3 a node a (11 + 3 a has, 12 + 3 a hintFor), 25 contexts, 26 + 2 a context a (27 + 2 a clock), 34 cuts, 35 latest, 36 aims, 37 seen, 38 ones, 39 others, 40 differs; 41 the reference (42 down, 43 severed, 44 ring, 45 keyOf, 46 valueOf, 47 writer, 48 clock, 49 has, 50 hint, 51 before, 52 contextKey, 53 contextSet, 54 contextClock, 55 lately, 56 row, 57 aims) -/
def jw_KT : List (Nat × Nat × List (Option Nat)) := [(0, 0, [some 1, some 4, some 9, some 34, some 25, none, none, some 35, none, some 36, none, none, some 37, some 38, some 39, some 40]), (0, 1, [none, some 2, some 3, none, none]), (1, 16, []), (1, 5, []), (0, 2, [some 5, some 6, some 7, some 8, none]), (1, 40, []), (1, 40, []), (1, 40, []), (1, 200, []), (3, 5, [some 10, some 13, some 16, some 19, some 22]), (0, 3, [some 4, some 11, some 12, none]), (2, 40, []), (1, 40, []), (0, 3, [some 4, some 14, some 15, none]), (2, 40, []), (1, 40, []), (0, 3, [some 4, some 17, some 18, none]), (2, 40, []), (1, 40, []), (0, 3, [some 4, some 20, some 21, none]), (2, 40, []), (1, 40, []), (0, 3, [some 4, some 23, some 24, none]), (2, 40, []), (1, 40, []), (4, 4, [some 26, some 28, some 30, some 32]), (0, 4, [some 27, none]), (1, 5, []), (0, 4, [some 29, none]), (1, 5, []), (0, 4, [some 31, none]), (1, 5, []), (0, 4, [some 33, none]), (1, 5, []), (2, 25, []), (2, 40, []), (1, 5, []), (2, 40, []), (2, 40, []), (2, 40, []), (2, 32, []), (0, 5, [none, none, none, some 42, some 43, some 44, none, some 45, some 46, some 47, some 48, some 49, some 50, some 51, some 52, some 53, some 54, some 55, none, none, some 56, none, some 57, none]), (2, 5, []), (2, 25, []), (1, 16, []), (1, 40, []), (1, 40, []), (1, 40, []), (1, 200, []), (2, 200, []), (1, 200, []), (2, 80, []), (1, 4, []), (2, 4, []), (1, 20, []), (1, 40, []), (1, 5, []), (1, 5, [])]
def jw_g (G : jw_G) : jw_E := (G.1, G.2.1, G.2.2.1, jw_KT, some G.2.2.2)
abbrev jw_a (G : jw_G) (k : Nat) : Value := .ref ((jw_g G).2.2.1 k)
theorem jw_k0 : jw_KT[0]? = some (0, 0, [some 1, some 4, some 9, some 34, some 25, none, none, some 35, none, some 36, none, none, some 37, some 38, some 39, some 40]) := rfl
theorem jw_k1 : jw_KT[1]? = some (0, 1, [none, some 2, some 3, none, none]) := rfl
theorem jw_k2 : jw_KT[2]? = some (1, 16, []) := rfl
theorem jw_k3 : jw_KT[3]? = some (1, 5, []) := rfl
theorem jw_k4 : jw_KT[4]? = some (0, 2, [some 5, some 6, some 7, some 8, none]) := rfl
theorem jw_k5 : jw_KT[5]? = some (1, 40, []) := rfl
theorem jw_k6 : jw_KT[6]? = some (1, 40, []) := rfl
theorem jw_k7 : jw_KT[7]? = some (1, 40, []) := rfl
theorem jw_k8 : jw_KT[8]? = some (1, 200, []) := rfl
theorem jw_k9 : jw_KT[9]? = some (3, 5, [some 10, some 13, some 16, some 19, some 22]) := rfl
theorem jw_k25 : jw_KT[25]? = some (4, 4, [some 26, some 28, some 30, some 32]) := rfl
theorem jw_k34 : jw_KT[34]? = some (2, 25, []) := rfl
theorem jw_k35 : jw_KT[35]? = some (2, 40, []) := rfl
theorem jw_k36 : jw_KT[36]? = some (1, 5, []) := rfl
theorem jw_k37 : jw_KT[37]? = some (2, 40, []) := rfl
theorem jw_k38 : jw_KT[38]? = some (2, 40, []) := rfl
theorem jw_k39 : jw_KT[39]? = some (2, 40, []) := rfl
theorem jw_k40 : jw_KT[40]? = some (2, 32, []) := rfl
theorem jw_k41 : jw_KT[41]? = some (0, 5, [none, none, none, some 42, some 43, some 44, none, some 45, some 46, some 47, some 48, some 49, some 50, some 51, some 52, some 53, some 54, some 55, none, none, some 56, none, some 57, none]) := rfl
theorem jw_k42 : jw_KT[42]? = some (2, 5, []) := rfl
theorem jw_k43 : jw_KT[43]? = some (2, 25, []) := rfl
theorem jw_k44 : jw_KT[44]? = some (1, 16, []) := rfl
theorem jw_k45 : jw_KT[45]? = some (1, 40, []) := rfl
theorem jw_k46 : jw_KT[46]? = some (1, 40, []) := rfl
theorem jw_k47 : jw_KT[47]? = some (1, 40, []) := rfl
theorem jw_k48 : jw_KT[48]? = some (1, 200, []) := rfl
theorem jw_k49 : jw_KT[49]? = some (2, 200, []) := rfl
theorem jw_k50 : jw_KT[50]? = some (1, 200, []) := rfl
theorem jw_k51 : jw_KT[51]? = some (2, 80, []) := rfl
theorem jw_k52 : jw_KT[52]? = some (1, 4, []) := rfl
theorem jw_k53 : jw_KT[53]? = some (2, 4, []) := rfl
theorem jw_k54 : jw_KT[54]? = some (1, 20, []) := rfl
theorem jw_k55 : jw_KT[55]? = some (1, 40, []) := rfl
theorem jw_k56 : jw_KT[56]? = some (1, 5, []) := rfl
theorem jw_k57 : jw_KT[57]? = some (1, 5, []) := rfl
theorem jw_kN : ∀ {a : Nat}, a < 5 → jw_KT[10 + 3 * a]? = some (0, 3, [some 4, some (11 + 3 * a), some (12 + 3 * a), none])
  | 0, _ => rfl
  | 1, _ => rfl
  | 2, _ => rfl
  | 3, _ => rfl
  | 4, _ => rfl
  | a + 5, h => absurd h (by omega)
theorem jw_kH : ∀ {a : Nat}, a < 5 → jw_KT[11 + 3 * a]? = some (2, 40, [])
  | 0, _ => rfl
  | 1, _ => rfl
  | 2, _ => rfl
  | 3, _ => rfl
  | 4, _ => rfl
  | a + 5, h => absurd h (by omega)
theorem jw_kI : ∀ {a : Nat}, a < 5 → jw_KT[12 + 3 * a]? = some (1, 40, [])
  | 0, _ => rfl
  | 1, _ => rfl
  | 2, _ => rfl
  | 3, _ => rfl
  | 4, _ => rfl
  | a + 5, h => absurd h (by omega)
theorem jw_kC : ∀ {a : Nat}, a < 4 → jw_KT[26 + 2 * a]? = some (0, 4, [some (27 + 2 * a), none])
  | 0, _ => rfl
  | 1, _ => rfl
  | 2, _ => rfl
  | 3, _ => rfl
  | a + 4, h => absurd h (by omega)
theorem jw_kK : ∀ {a : Nat}, a < 4 → jw_KT[27 + 2 * a]? = some (1, 5, [])
  | 0, _ => rfl
  | 1, _ => rfl
  | 2, _ => rfl
  | 3, _ => rfl
  | a + 4, h => absurd h (by omega)
theorem jw_uw_V : ∀ w ∈ u_ws R_V T_V 16, w ∈ lw_tbl := by decide +kernel
theorem jw_ug_V : ∀ w ∈ u_ws R_V T_V 16, goodWord w = true := by decide +kernel
theorem jw_uw_R : ∀ w ∈ u_ws R_R T_R 5, w ∈ lw_tbl := by decide +kernel
theorem jw_ug_R : ∀ w ∈ u_ws R_R T_R 5, goodWord w = true := by decide +kernel
theorem jw_uw_G : ∀ w ∈ u_ws R_G T_G 5, w ∈ lw_tbl := by decide +kernel
theorem jw_ug_G : ∀ w ∈ u_ws R_G T_G 5, goodWord w = true := by decide +kernel
theorem jw_uw_N : ∀ w ∈ u_ws R_N T_N 4, w ∈ lw_tbl := by decide +kernel
theorem jw_ug_N : ∀ w ∈ u_ws R_N T_N 4, goodWord w = true := by decide +kernel
theorem jw_uw_C : ∀ w ∈ u_ws R_C T_C 2, w ∈ lw_tbl := by decide +kernel
theorem jw_ug_C : ∀ w ∈ u_ws R_C T_C 2, goodWord w = true := by decide +kernel
theorem jw_uw_M : ∀ w ∈ u_ws R_M T_M 24, w ∈ lw_tbl := by decide +kernel
theorem jw_ug_M : ∀ w ∈ u_ws R_M T_M 24, goodWord w = true := by decide +kernel
theorem jw_c_V : vwCl[0]? = some (R_V, T_V, 16) := rfl
theorem jw_oc_V : jw_okC R_V T_V 16 ty_V := ⟨fun w hw => jw_in (jw_uw_V w hw) (jw_ug_V w hw), by decide +kernel, by decide +kernel⟩
theorem jw_c_R : vwCl[1]? = some (R_R, T_R, 5) := rfl
theorem jw_oc_R : jw_okC R_R T_R 5 ty_R := ⟨fun w hw => jw_in (jw_uw_R w hw) (jw_ug_R w hw), by decide +kernel, by decide +kernel⟩
theorem jw_c_G : vwCl[2]? = some (R_G, T_G, 5) := rfl
theorem jw_oc_G : jw_okC R_G T_G 5 ty_G := ⟨fun w hw => jw_in (jw_uw_G w hw) (jw_ug_G w hw), by decide +kernel, by decide +kernel⟩
theorem jw_c_N : vwCl[3]? = some (R_N, T_N, 4) := rfl
theorem jw_oc_N : jw_okC R_N T_N 4 ty_N := ⟨fun w hw => jw_in (jw_uw_N w hw) (jw_ug_N w hw), by decide +kernel, by decide +kernel⟩
theorem jw_c_C : vwCl[4]? = some (R_C, T_C, 2) := rfl
theorem jw_oc_C : jw_okC R_C T_C 2 ty_C := ⟨fun w hw => jw_in (jw_uw_C w hw) (jw_ug_C w hw), by decide +kernel, by decide +kernel⟩
theorem jw_c_M : vwCl[5]? = some (R_M, T_M, 24) := rfl
theorem jw_oc_M : jw_okC R_M T_M 24 ty_M := ⟨fun w hw => jw_in (jw_uw_M w hw) (jw_ug_M w hw), by decide +kernel, by decide +kernel⟩
theorem jw_noN : ∀ {a : Nat}, a < 5 → ([some 10, some 13, some 16, some 19, some 22] : List (Option Nat))[a]? = some (some (10 + 3 * a))
  | 0, _ => rfl
  | 1, _ => rfl
  | 2, _ => rfl
  | 3, _ => rfl
  | 4, _ => rfl
  | a + 5, h => absurd h (by omega)
theorem jw_noC : ∀ {a : Nat}, a < 4 → ([some 26, some 28, some 30, some 32] : List (Option Nat))[a]? = some (some (26 + 2 * a))
  | 0, _ => rfl
  | 1, _ => rfl
  | 2, _ => rfl
  | 3, _ => rfl
  | a + 4, h => absurd h (by omega)
theorem jw_aaldN {l : Launch} {X : jw_X0} {G : jw_G} {A : Nat → Prop} {f : jw_F} {pc : Nat} {L : List (Option Value)} {S : List Value} {M : jw_Mem} {a : Nat} {i : Int32} (hd : decode f.2.1 pc = .ok (.aaload, 1)) (ha : a < 5 ∧ i = nI a) (h : jw_X l X (jw_g G) A f (pc + 1) L (jw_a G (10 + 3 * a) :: S) M) : jw_X l X (jw_g G) A f pc L (.int i :: jw_a G 9 :: S) M := jw_aald3 (E := jw_g G) (k := 9) (t := 10 + 3 * a) hd jw_k9 (jw_inb (by decide) ha) (by rw [jw_cl (n := 5) (by decide) ha]; exact jw_noN ha.1) h
theorem jw_aaldC {l : Launch} {X : jw_X0} {G : jw_G} {A : Nat → Prop} {f : jw_F} {pc : Nat} {L : List (Option Value)} {S : List Value} {M : jw_Mem} {a : Nat} {i : Int32} (hd : decode f.2.1 pc = .ok (.aaload, 1)) (ha : a < 4 ∧ i = nI a) (h : jw_X l X (jw_g G) A f (pc + 1) L (jw_a G (26 + 2 * a) :: S) M) : jw_X l X (jw_g G) A f pc L (.int i :: jw_a G 25 :: S) M := jw_aald4 (E := jw_g G) (k := 25) (t := 26 + 2 * a) hd jw_k25 (jw_inb (by decide) ha) (by rw [jw_cl (n := 4) (by decide) ha]; exact jw_noC ha.1) h
end
section
/-! The methods, and the words that their instructions link. -/
def f_C_isEmpty : jw_F := (y_C_isEmpty, b_C_isEmpty, 1, some .boolean, 0, 0)
def f_C_learn : jw_F := (y_C_learn, b_C_learn, 5, none, 2, 45)
def f_C_rise : jw_F := (y_C_rise, b_C_rise, 4, none, 1, 22)
def f_G_isMade : jw_F := (y_G_isMade, b_G_isMade, 2, some .boolean, 0, 0)
def f_G_clockCount : jw_F := (y_G_clockCount, b_G_clockCount, 3, some .int, 0, 0)
def f_G_add : jw_F := (y_G_add, b_G_add, 6, some .int, 1, 26)
def f_G_numberWritten : jw_F := (y_G_numberWritten, b_G_numberWritten, 5, some .int, 0, 0)
def f_G_isAtOrBelow : jw_F := (y_G_isAtOrBelow, b_G_isAtOrBelow, 4, some .boolean, 1, 22)
def f_N_hasHintOf : jw_F := (y_N_hasHintOf, b_N_hasHintOf, 2, some .boolean, 0, 0)
def f_N_take : jw_F := (y_N_take, b_N_take, 3, some .boolean, 3, 67)
def f_N_isPassed : jw_F := (y_N_isPassed, b_N_isPassed, 3, some .boolean, 2, 45)
def f_N_hasBeside : jw_F := (y_N_hasBeside, b_N_hasBeside, 3, some .boolean, 0, 0)
def f_N_takeAll : jw_F := (y_N_takeAll, b_N_takeAll, 4, some .int, 4, 89)
def f_N_dropAll : jw_F := (y_N_dropAll, b_N_dropAll, 3, none, 0, 0)
def f_N_writeOut : jw_F := (y_N_writeOut, b_N_writeOut, 5, some .int, 0, 0)
def f_R_lookUp : jw_F := (y_R_lookUp, b_R_lookUp, 5, none, 1, 23)
def f_R_hasHome : jw_F := (y_R_hasHome, b_R_hasHome, 2, some .boolean, 1, 23)
def f_R_isAmongFirst : jw_F := (y_R_isAmongFirst, b_R_isAmongFirst, 4, some .boolean, 0, 0)
def f_V_token : jw_F := (y_V_token, b_V_token, 3, some .boolean, 1, 20)
def f_V_remove : jw_F := (y_V_remove, b_V_remove, 2, some .boolean, 1, 20)
def f_V_power : jw_F := (y_V_power, b_V_power, 3, some .boolean, 1, 20)
def f_V_cut : jw_F := (y_V_cut, b_V_cut, 4, some .boolean, 2, 42)
def f_V_put : jw_F := (y_V_put, b_V_put, 7, some .int, 5, 111)
def f_V_get : jw_F := (y_V_get, b_V_get, 6, some .int, 5, 112)
def f_V_found : jw_F := (y_V_found, b_V_found, 4, some .int, 0, 0)
def f_V_repaired : jw_F := (y_V_repaired, b_V_repaired, 1, some .int, 0, 0)
def f_V_handOver : jw_F := (y_V_handOver, b_V_handOver, 4, some .int, 6, 136)
def f_V_compare : jw_F := (y_V_compare, b_V_compare, 4, some .int, 6, 135)
def f_V_home : jw_F := (y_V_home, b_V_home, 3, some .int, 2, 47)
def f_V_targets : jw_F := (y_V_targets, b_V_targets, 3, some .int, 4, 87)
def f_V_holds : jw_F := (y_V_holds, b_V_holds, 5, some .int, 1, 21)
def f_V_count : jw_F := (y_V_count, b_V_count, 3, some .int, 1, 24)
def f_V_hints : jw_F := (y_V_hints, b_V_hints, 4, some .int, 1, 21)
def f_V_versions : jw_F := (y_V_versions, b_V_versions, 1, some .int, 0, 0)
def f_V_version : jw_F := (y_V_version, b_V_version, 3, some .int, 1, 22)
def f_V_context : jw_F := (y_V_context, b_V_context, 3, some .int, 1, 20)
def f_V_isNode : jw_F := (y_V_isNode, b_V_isNode, 1, some .boolean, 0, 0)
def f_V_areTwoNodes : jw_F := (y_V_areTwoNodes, b_V_areTwoNodes, 2, some .boolean, 1, 20)
def f_V_isPosition : jw_F := (y_V_isPosition, b_V_isPosition, 1, some .boolean, 0, 0)
def f_V_isKey : jw_F := (y_V_isKey, b_V_isKey, 1, some .boolean, 0, 0)
def f_V_isContext : jw_F := (y_V_isContext, b_V_isContext, 1, some .boolean, 0, 0)
def f_V_mayKnow : jw_F := (y_V_mayKnow, b_V_mayKnow, 3, some .boolean, 1, 20)
def f_V_line : jw_F := (y_V_line, b_V_line, 2, some .int, 1, 21)
def f_V_reaches : jw_F := (y_V_reaches, b_V_reaches, 3, some .boolean, 2, 42)
def f_V_aim : jw_F := (y_V_aim, b_V_aim, 4, none, 3, 64)
def f_V_sendToHomes : jw_F := (y_V_sendToHomes, b_V_sendToHomes, 3, none, 4, 89)
def f_V_leaveHints : jw_F := (y_V_leaveHints, b_V_leaveHints, 6, none, 3, 64)
def f_V_lookAtTargets : jw_F := (y_V_lookAtTargets, b_V_lookAtTargets, 3, none, 2, 44)
def f_V_isAtSomeTarget : jw_F := (y_V_isAtSomeTarget, b_V_isAtSomeTarget, 4, some .boolean, 1, 21)
def f_V_keepLatest : jw_F := (y_V_keepLatest, b_V_keepLatest, 3, some .int, 3, 67)
def f_V_isPassedBySeen : jw_F := (y_V_isPassedBySeen, b_V_isPassedBySeen, 3, some .boolean, 2, 45)
def f_V_handOverHints : jw_F := (y_V_handOverHints, b_V_handOverHints, 5, some .int, 4, 89)
def f_V_handOverKey : jw_F := (y_V_handOverKey, b_V_handOverKey, 5, some .int, 5, 112)
def f_V_reachesAllHomes : jw_F := (y_V_reachesAllHomes, b_V_reachesAllHomes, 3, some .boolean, 3, 64)
def f_V_share : jw_F := (y_V_share, b_V_share, 4, some .boolean, 2, 47)
def f_V_differ : jw_F := (y_V_differ, b_V_differ, 5, some .boolean, 0, 0)
def f_V_exchange : jw_F := (y_V_exchange, b_V_exchange, 4, none, 5, 112)
def f_V_countComparedParts : jw_F := (y_V_countComparedParts, b_V_countComparedParts, 4, some .int, 0, 0)
def f_M_isNode : jw_F := (y_M_isNode, b_M_isNode, 1, some .boolean, 0, 0)
def f_M_isKey : jw_F := (y_M_isKey, b_M_isKey, 1, some .boolean, 0, 0)
def f_M_reaches : jw_F := (y_M_reaches, b_M_reaches, 3, some .boolean, 0, 0)
def f_M_token : jw_F := (y_M_token, b_M_token, 3, some .boolean, 1, 20)
def f_M_remove : jw_F := (y_M_remove, b_M_remove, 2, some .boolean, 0, 0)
def f_M_power : jw_F := (y_M_power, b_M_power, 3, some .boolean, 1, 20)
def f_M_cut : jw_F := (y_M_cut, b_M_cut, 4, some .boolean, 1, 20)
def f_M_placeIn : jw_F := (y_M_placeIn, b_M_placeIn, 3, some .int, 0, 0)
def f_M_list : jw_F := (y_M_list, b_M_list, 4, none, 1, 22)
def f_M_homes : jw_F := (y_M_homes, b_M_homes, 1, some .int, 0, 0)
def f_M_isHome : jw_F := (y_M_isHome, b_M_isHome, 4, some .boolean, 2, 45)
def f_M_home : jw_F := (y_M_home, b_M_home, 3, some .int, 2, 45)
def f_M_aim : jw_F := (y_M_aim, b_M_aim, 4, none, 2, 45)
def f_M_targets : jw_F := (y_M_targets, b_M_targets, 3, some .int, 3, 68)
def f_M_standsFor : jw_F := (y_M_standsFor, b_M_standsFor, 5, some .int, 1, 22)
def f_M_below : jw_F := (y_M_below, b_M_below, 5, some .boolean, 0, 0)
def f_M_take : jw_F := (y_M_take, b_M_take, 4, none, 1, 24)
def f_M_put : jw_F := (y_M_put, b_M_put, 9, some .int, 3, 68)
def f_M_shown : jw_F := (y_M_shown, b_M_shown, 4, some .boolean, 0, 0)
def f_M_isFound : jw_F := (y_M_isFound, b_M_isFound, 4, some .boolean, 1, 24)
def f_M_get : jw_F := (y_M_get, b_M_get, 8, some .int, 3, 70)
def f_M_repair : jw_F := (y_M_repair, b_M_repair, 4, none, 2, 47)
def f_M_found : jw_F := (y_M_found, b_M_found, 2, some .int, 0, 0)
def f_M_repaired : jw_F := (y_M_repaired, b_M_repaired, 1, some .int, 0, 0)
def f_M_handOver : jw_F := (y_M_handOver, b_M_handOver, 5, some .int, 4, 93)
def f_M_moved : jw_F := (y_M_moved, b_M_moved, 6, some .int, 3, 68)
def f_M_differ : jw_F := (y_M_differ, b_M_differ, 6, some .boolean, 3, 68)
def f_M_exchange : jw_F := (y_M_exchange, b_M_exchange, 5, none, 2, 47)
def f_M_compare : jw_F := (y_M_compare, b_M_compare, 8, some .int, 4, 93)
def f_M_holds : jw_F := (y_M_holds, b_M_holds, 3, some .int, 1, 20)
def f_M_count : jw_F := (y_M_count, b_M_count, 5, some .int, 1, 20)
def f_M_hints : jw_F := (y_M_hints, b_M_hints, 4, some .int, 1, 20)
def f_M_versions : jw_F := (y_M_versions, b_M_versions, 1, some .int, 0, 0)
def f_M_version : jw_F := (y_M_version, b_M_version, 3, some .int, 0, 0)
def f_M_context : jw_F := (y_M_context, b_M_context, 3, some .int, 1, 20)
def f_J_fill : jw_F := (y_J_fill, b_J_fill, 4, none, 0, 0)
theorem jc_b_m4 : (Int8.ofInt (-4)).toInt32 = (-4) := by decide
theorem jc_b_m3 : (Int8.ofInt (-3)).toInt32 = (-3) := by decide
theorem jc_b_m2 : (Int8.ofInt (-2)).toInt32 = (-2) := by decide
theorem jc_b_6 : (Int8.ofInt 6).toInt32 = 6 := by decide
theorem jc_b_15 : (Int8.ofInt 15).toInt32 = 15 := by decide
theorem jc_b_16 : (Int8.ofInt 16).toInt32 = 16 := by decide
theorem jc_b_31 : (Int8.ofInt 31).toInt32 = 31 := by decide
theorem jc_b_32 : (Int8.ofInt 32).toInt32 = 32 := by decide
theorem jc_b_40 : (Int8.ofInt 40).toInt32 = 40 := by decide
theorem jc_i_m1 : Int32.ofInt (-1) = (-1) := by decide
theorem jc_i_0 : Int32.ofInt 0 = 0 := by decide
theorem jc_i_1 : Int32.ofInt 1 = 1 := by decide
theorem jc_i_2 : Int32.ofInt 2 = 2 := by decide
theorem jc_i_3 : Int32.ofInt 3 = 3 := by decide
theorem jc_i_4 : Int32.ofInt 4 = 4 := by decide
theorem jc_i_5 : Int32.ofInt 5 = 5 := by decide
theorem jw_fl_V_18 : Cond.fieldLink R_V 18 (T_V 0).1 (T_V 0).2.1 (T_V 0).2.2.1 ∈ jw_ws := jw_in (by decide +kernel) (by decide +kernel)
theorem jw_fl_V_24 : Cond.fieldLink R_V 24 (T_V 5).1 (T_V 5).2.1 (T_V 5).2.2.1 ∈ jw_ws := jw_in (by decide +kernel) (by decide +kernel)
theorem jw_fl_V_28 : Cond.fieldLink R_V 28 (T_V 6).1 (T_V 6).2.1 (T_V 6).2.2.1 ∈ jw_ws := jw_in (by decide +kernel) (by decide +kernel)
theorem jw_fl_V_34 : Cond.fieldLink R_V 34 (T_V 1).1 (T_V 1).2.1 (T_V 1).2.2.1 ∈ jw_ws := jw_in (by decide +kernel) (by decide +kernel)
theorem jw_fl_V_40 : Cond.fieldLink R_V 40 (T_V 2).1 (T_V 2).2.1 (T_V 2).2.2.1 ∈ jw_ws := jw_in (by decide +kernel) (by decide +kernel)
theorem jw_fl_V_49 : Cond.fieldLink R_V 49 (T_V 4).1 (T_V 4).2.1 (T_V 4).2.2.1 ∈ jw_ws := jw_in (by decide +kernel) (by decide +kernel)
theorem jw_fl_V_54 : Cond.fieldLink R_V 54 (T_V 3).1 (T_V 3).2.1 (T_V 3).2.2.1 ∈ jw_ws := jw_in (by decide +kernel) (by decide +kernel)
theorem jw_fl_V_58 : Cond.fieldLink R_V 58 (T_V 7).1 (T_V 7).2.1 (T_V 7).2.2.1 ∈ jw_ws := jw_in (by decide +kernel) (by decide +kernel)
theorem jw_fl_V_61 : Cond.fieldLink R_V 61 (T_V 9).1 (T_V 9).2.1 (T_V 9).2.2.1 ∈ jw_ws := jw_in (by decide +kernel) (by decide +kernel)
theorem jw_fl_V_65 : Cond.fieldLink R_V 65 (T_V 12).1 (T_V 12).2.1 (T_V 12).2.2.1 ∈ jw_ws := jw_in (by decide +kernel) (by decide +kernel)
theorem jw_fl_V_68 : Cond.fieldLink R_V 68 (T_V 13).1 (T_V 13).2.1 (T_V 13).2.2.1 ∈ jw_ws := jw_in (by decide +kernel) (by decide +kernel)
theorem jw_fl_V_71 : Cond.fieldLink R_V 71 (T_V 14).1 (T_V 14).2.1 (T_V 14).2.2.1 ∈ jw_ws := jw_in (by decide +kernel) (by decide +kernel)
theorem jw_fl_V_74 : Cond.fieldLink R_V 74 (T_V 15).1 (T_V 15).2.1 (T_V 15).2.2.1 ∈ jw_ws := jw_in (by decide +kernel) (by decide +kernel)
theorem jw_fl_V_84 : Cond.fieldLink R_V 84 (T_R 1).1 (T_R 1).2.1 (T_R 1).2.2.1 ∈ jw_ws := jw_in (by decide +kernel) (by decide +kernel)
theorem jw_fl_V_87 : Cond.fieldLink R_V 87 (T_N 3).1 (T_N 3).2.1 (T_N 3).2.2.1 ∈ jw_ws := jw_in (by decide +kernel) (by decide +kernel)
theorem jw_fl_V_104 : Cond.fieldLink R_V 104 (T_G 4).1 (T_G 4).2.1 (T_G 4).2.2.1 ∈ jw_ws := jw_in (by decide +kernel) (by decide +kernel)
theorem jw_fl_V_111 : Cond.fieldLink R_V 111 (T_V 10).1 (T_V 10).2.1 (T_V 10).2.2.1 ∈ jw_ws := jw_in (by decide +kernel) (by decide +kernel)
theorem jw_fl_V_117 : Cond.fieldLink R_V 117 (T_C 0).1 (T_C 0).2.1 (T_C 0).2.2.1 ∈ jw_ws := jw_in (by decide +kernel) (by decide +kernel)
theorem jw_fl_V_144 : Cond.fieldLink R_V 144 (T_V 8).1 (T_V 8).2.1 (T_V 8).2.2.1 ∈ jw_ws := jw_in (by decide +kernel) (by decide +kernel)
theorem jw_fl_V_147 : Cond.fieldLink R_V 147 (T_V 11).1 (T_V 11).2.1 (T_V 11).2.2.1 ∈ jw_ws := jw_in (by decide +kernel) (by decide +kernel)
theorem jw_fl_V_181 : Cond.fieldLink R_V 181 (T_R 4).1 (T_R 4).2.1 (T_R 4).2.2.1 ∈ jw_ws := jw_in (by decide +kernel) (by decide +kernel)
theorem jw_fl_V_184 : Cond.fieldLink R_V 184 (T_R 2).1 (T_R 2).2.1 (T_R 2).2.2.1 ∈ jw_ws := jw_in (by decide +kernel) (by decide +kernel)
theorem jw_fl_V_190 : Cond.fieldLink R_V 190 (T_N 1).1 (T_N 1).2.1 (T_N 1).2.2.1 ∈ jw_ws := jw_in (by decide +kernel) (by decide +kernel)
theorem jw_fl_V_200 : Cond.fieldLink R_V 200 (T_G 0).1 (T_G 0).2.1 (T_G 0).2.2.1 ∈ jw_ws := jw_in (by decide +kernel) (by decide +kernel)
theorem jw_fl_V_203 : Cond.fieldLink R_V 203 (T_G 1).1 (T_G 1).2.1 (T_G 1).2.2.1 ∈ jw_ws := jw_in (by decide +kernel) (by decide +kernel)
theorem jw_fl_V_213 : Cond.fieldLink R_V 213 (T_C 1).1 (T_C 1).2.1 (T_C 1).2.2.1 ∈ jw_ws := jw_in (by decide +kernel) (by decide +kernel)
theorem jw_fl_V_219 : Cond.fieldLink R_V 219 (T_R 3).1 (T_R 3).2.1 (T_R 3).2.2.1 ∈ jw_ws := jw_in (by decide +kernel) (by decide +kernel)
theorem jw_fl_V_222 : Cond.fieldLink R_V 222 (T_R 0).1 (T_R 0).2.1 (T_R 0).2.2.1 ∈ jw_ws := jw_in (by decide +kernel) (by decide +kernel)
theorem jw_fl_V_228 : Cond.fieldLink R_V 228 (T_N 2).1 (T_N 2).2.1 (T_N 2).2.2.1 ∈ jw_ws := jw_in (by decide +kernel) (by decide +kernel)
theorem jw_fl_C_9 : Cond.fieldLink R_C 9 (T_C 0).1 (T_C 0).2.1 (T_C 0).2.2.1 ∈ jw_ws := jw_in (by decide +kernel) (by decide +kernel)
theorem jw_fl_C_15 : Cond.fieldLink R_C 15 (T_C 1).1 (T_C 1).2.1 (T_C 1).2.2.1 ∈ jw_ws := jw_in (by decide +kernel) (by decide +kernel)
theorem jw_fl_C_25 : Cond.fieldLink R_C 25 (T_G 4).1 (T_G 4).2.1 (T_G 4).2.2.1 ∈ jw_ws := jw_in (by decide +kernel) (by decide +kernel)
theorem jw_fl_G_9 : Cond.fieldLink R_G 9 (T_G 0).1 (T_G 0).2.1 (T_G 0).2.2.1 ∈ jw_ws := jw_in (by decide +kernel) (by decide +kernel)
theorem jw_fl_G_15 : Cond.fieldLink R_G 15 (T_G 1).1 (T_G 1).2.1 (T_G 1).2.2.1 ∈ jw_ws := jw_in (by decide +kernel) (by decide +kernel)
theorem jw_fl_G_18 : Cond.fieldLink R_G 18 (T_G 2).1 (T_G 2).2.1 (T_G 2).2.2.1 ∈ jw_ws := jw_in (by decide +kernel) (by decide +kernel)
theorem jw_fl_G_21 : Cond.fieldLink R_G 21 (T_G 3).1 (T_G 3).2.1 (T_G 3).2.2.1 ∈ jw_ws := jw_in (by decide +kernel) (by decide +kernel)
theorem jw_fl_G_24 : Cond.fieldLink R_G 24 (T_G 4).1 (T_G 4).2.1 (T_G 4).2.2.1 ∈ jw_ws := jw_in (by decide +kernel) (by decide +kernel)
theorem jw_fl_N_9 : Cond.fieldLink R_N 9 (T_N 0).1 (T_N 0).2.1 (T_N 0).2.2.1 ∈ jw_ws := jw_in (by decide +kernel) (by decide +kernel)
theorem jw_fl_N_15 : Cond.fieldLink R_N 15 (T_N 1).1 (T_N 1).2.1 (T_N 1).2.2.1 ∈ jw_ws := jw_in (by decide +kernel) (by decide +kernel)
theorem jw_fl_N_19 : Cond.fieldLink R_N 19 (T_N 2).1 (T_N 2).2.1 (T_N 2).2.2.1 ∈ jw_ws := jw_in (by decide +kernel) (by decide +kernel)
theorem jw_fl_N_37 : Cond.fieldLink R_N 37 (T_G 4).1 (T_G 4).2.1 (T_G 4).2.2.1 ∈ jw_ws := jw_in (by decide +kernel) (by decide +kernel)
theorem jw_fl_N_50 : Cond.fieldLink R_N 50 (T_G 0).1 (T_G 0).2.1 (T_G 0).2.2.1 ∈ jw_ws := jw_in (by decide +kernel) (by decide +kernel)
theorem jw_fl_R_9 : Cond.fieldLink R_R 9 (T_R 0).1 (T_R 0).2.1 (T_R 0).2.2.1 ∈ jw_ws := jw_in (by decide +kernel) (by decide +kernel)
theorem jw_fl_R_15 : Cond.fieldLink R_R 15 (T_R 1).1 (T_R 1).2.1 (T_R 1).2.2.1 ∈ jw_ws := jw_in (by decide +kernel) (by decide +kernel)
theorem jw_fl_R_25 : Cond.fieldLink R_R 25 (T_R 2).1 (T_R 2).2.1 (T_R 2).2.2.1 ∈ jw_ws := jw_in (by decide +kernel) (by decide +kernel)
theorem jw_fl_R_28 : Cond.fieldLink R_R 28 (T_R 3).1 (T_R 3).2.1 (T_R 3).2.2.1 ∈ jw_ws := jw_in (by decide +kernel) (by decide +kernel)
theorem jw_fl_R_41 : Cond.fieldLink R_R 41 (T_R 4).1 (T_R 4).2.1 (T_R 4).2.2.1 ∈ jw_ws := jw_in (by decide +kernel) (by decide +kernel)
theorem jw_fl_M_7 : Cond.fieldLink R_M 7 (T_M 3).1 (T_M 3).2.1 (T_M 3).2.2.1 ∈ jw_ws := jw_in (by decide +kernel) (by decide +kernel)
theorem jw_fl_M_13 : Cond.fieldLink R_M 13 (T_M 4).1 (T_M 4).2.1 (T_M 4).2.2.1 ∈ jw_ws := jw_in (by decide +kernel) (by decide +kernel)
theorem jw_fl_M_16 : Cond.fieldLink R_M 16 (T_M 5).1 (T_M 5).2.1 (T_M 5).2.2.1 ∈ jw_ws := jw_in (by decide +kernel) (by decide +kernel)
theorem jw_fl_M_20 : Cond.fieldLink R_M 20 (T_M 7).1 (T_M 7).2.1 (T_M 7).2.2.1 ∈ jw_ws := jw_in (by decide +kernel) (by decide +kernel)
theorem jw_fl_M_23 : Cond.fieldLink R_M 23 (T_M 8).1 (T_M 8).2.1 (T_M 8).2.2.1 ∈ jw_ws := jw_in (by decide +kernel) (by decide +kernel)
theorem jw_fl_M_26 : Cond.fieldLink R_M 26 (T_M 9).1 (T_M 9).2.1 (T_M 9).2.2.1 ∈ jw_ws := jw_in (by decide +kernel) (by decide +kernel)
theorem jw_fl_M_29 : Cond.fieldLink R_M 29 (T_M 10).1 (T_M 10).2.1 (T_M 10).2.2.1 ∈ jw_ws := jw_in (by decide +kernel) (by decide +kernel)
theorem jw_fl_M_32 : Cond.fieldLink R_M 32 (T_M 11).1 (T_M 11).2.1 (T_M 11).2.2.1 ∈ jw_ws := jw_in (by decide +kernel) (by decide +kernel)
theorem jw_fl_M_35 : Cond.fieldLink R_M 35 (T_M 12).1 (T_M 12).2.1 (T_M 12).2.2.1 ∈ jw_ws := jw_in (by decide +kernel) (by decide +kernel)
theorem jw_fl_M_38 : Cond.fieldLink R_M 38 (T_M 13).1 (T_M 13).2.1 (T_M 13).2.2.1 ∈ jw_ws := jw_in (by decide +kernel) (by decide +kernel)
theorem jw_fl_M_41 : Cond.fieldLink R_M 41 (T_M 14).1 (T_M 14).2.1 (T_M 14).2.2.1 ∈ jw_ws := jw_in (by decide +kernel) (by decide +kernel)
theorem jw_fl_M_44 : Cond.fieldLink R_M 44 (T_M 15).1 (T_M 15).2.1 (T_M 15).2.2.1 ∈ jw_ws := jw_in (by decide +kernel) (by decide +kernel)
theorem jw_fl_M_47 : Cond.fieldLink R_M 47 (T_M 16).1 (T_M 16).2.1 (T_M 16).2.2.1 ∈ jw_ws := jw_in (by decide +kernel) (by decide +kernel)
theorem jw_fl_M_50 : Cond.fieldLink R_M 50 (T_M 17).1 (T_M 17).2.1 (T_M 17).2.2.1 ∈ jw_ws := jw_in (by decide +kernel) (by decide +kernel)
theorem jw_fl_M_53 : Cond.fieldLink R_M 53 (T_M 20).1 (T_M 20).2.1 (T_M 20).2.2.1 ∈ jw_ws := jw_in (by decide +kernel) (by decide +kernel)
theorem jw_fl_M_56 : Cond.fieldLink R_M 56 (T_M 22).1 (T_M 22).2.1 (T_M 22).2.2.1 ∈ jw_ws := jw_in (by decide +kernel) (by decide +kernel)
theorem jw_fl_M_59 : Cond.fieldLink R_M 59 (T_M 0).1 (T_M 0).2.1 (T_M 0).2.2.1 ∈ jw_ws := jw_in (by decide +kernel) (by decide +kernel)
theorem jw_fl_M_63 : Cond.fieldLink R_M 63 (T_M 1).1 (T_M 1).2.1 (T_M 1).2.2.1 ∈ jw_ws := jw_in (by decide +kernel) (by decide +kernel)
theorem jw_fl_M_66 : Cond.fieldLink R_M 66 (T_M 2).1 (T_M 2).2.1 (T_M 2).2.2.1 ∈ jw_ws := jw_in (by decide +kernel) (by decide +kernel)
theorem jw_fl_M_73 : Cond.fieldLink R_M 73 (T_M 21).1 (T_M 21).2.1 (T_M 21).2.2.1 ∈ jw_ws := jw_in (by decide +kernel) (by decide +kernel)
theorem jw_fl_M_91 : Cond.fieldLink R_M 91 (T_M 23).1 (T_M 23).2.1 (T_M 23).2.2.1 ∈ jw_ws := jw_in (by decide +kernel) (by decide +kernel)
theorem jw_fl_M_102 : Cond.fieldLink R_M 102 (T_M 6).1 (T_M 6).2.1 (T_M 6).2.2.1 ∈ jw_ws := jw_in (by decide +kernel) (by decide +kernel)
theorem jw_fl_M_118 : Cond.fieldLink R_M 118 (T_M 18).1 (T_M 18).2.1 (T_M 18).2.2.1 ∈ jw_ws := jw_in (by decide +kernel) (by decide +kernel)
theorem jw_fl_M_127 : Cond.fieldLink R_M 127 (T_M 19).1 (T_M 19).2.1 (T_M 19).2.2.1 ∈ jw_ws := jw_in (by decide +kernel) (by decide +kernel)
set_option maxRecDepth 100000 in
theorem jw_cd_f_C_isEmpty : Cond.code f_C_isEmpty.1 f_C_isEmpty.2.1 f_C_isEmpty.2.2.1 f_C_isEmpty.2.2.2.1 ∈ jw_ws := jw_in (List.mem_append_right _ (List.mem_of_getElem? (i := 218) rfl)) rfl
set_option maxRecDepth 100000 in
theorem jw_cd_f_C_learn : Cond.code f_C_learn.1 f_C_learn.2.1 f_C_learn.2.2.1 f_C_learn.2.2.2.1 ∈ jw_ws := jw_in (List.mem_append_right _ (List.mem_of_getElem? (i := 305) rfl)) rfl
set_option maxRecDepth 100000 in
theorem jw_cd_f_C_rise : Cond.code f_C_rise.1 f_C_rise.2.1 f_C_rise.2.2.1 f_C_rise.2.2.2.1 ∈ jw_ws := jw_in (List.mem_append_right _ (List.mem_of_getElem? (i := 310) rfl)) rfl
set_option maxRecDepth 100000 in
theorem jw_cd_f_G_add : Cond.code f_G_add.1 f_G_add.2.1 f_G_add.2.2.1 f_G_add.2.2.2.1 ∈ jw_ws := jw_in (List.mem_append_right _ (List.mem_of_getElem? (i := 241) rfl)) rfl
set_option maxRecDepth 100000 in
theorem jw_cd_f_G_clockCount : Cond.code f_G_clockCount.1 f_G_clockCount.2.1 f_G_clockCount.2.2.1 f_G_clockCount.2.2.2.1 ∈ jw_ws := jw_in (List.mem_append_right _ (List.mem_of_getElem? (i := 272) rfl)) rfl
set_option maxRecDepth 100000 in
theorem jw_cd_f_G_isAtOrBelow : Cond.code f_G_isAtOrBelow.1 f_G_isAtOrBelow.2.1 f_G_isAtOrBelow.2.2.1 f_G_isAtOrBelow.2.2.2.1 ∈ jw_ws := jw_in (List.mem_append_right _ (List.mem_of_getElem? (i := 268) rfl)) rfl
set_option maxRecDepth 100000 in
theorem jw_cd_f_G_isMade : Cond.code f_G_isMade.1 f_G_isMade.2.1 f_G_isMade.2.2.1 f_G_isMade.2.2.2.1 ∈ jw_ws := jw_in (List.mem_append_right _ (List.mem_of_getElem? (i := 389) rfl)) rfl
set_option maxRecDepth 100000 in
theorem jw_cd_f_G_numberWritten : Cond.code f_G_numberWritten.1 f_G_numberWritten.2.1 f_G_numberWritten.2.2.1 f_G_numberWritten.2.2.2.1 ∈ jw_ws := jw_in (List.mem_append_right _ (List.mem_of_getElem? (i := 248) rfl)) rfl
set_option maxRecDepth 100000 in
theorem jw_cd_f_J_fill : Cond.code f_J_fill.1 f_J_fill.2.1 f_J_fill.2.2.1 f_J_fill.2.2.2.1 ∈ jw_ws := jw_in (List.mem_append_right _ (List.mem_of_getElem? (i := 29) rfl)) rfl
set_option maxRecDepth 100000 in
theorem jw_cd_f_M_aim : Cond.code f_M_aim.1 f_M_aim.2.1 f_M_aim.2.2.1 f_M_aim.2.2.2.1 ∈ jw_ws := jw_in (List.mem_append_right _ (List.mem_of_getElem? (i := 538) rfl)) rfl
set_option maxRecDepth 100000 in
theorem jw_cd_f_M_below : Cond.code f_M_below.1 f_M_below.2.1 f_M_below.2.2.1 f_M_below.2.2.2.1 ∈ jw_ws := jw_in (List.mem_append_right _ (List.mem_of_getElem? (i := 558) rfl)) rfl
set_option maxRecDepth 100000 in
theorem jw_cd_f_M_count : Cond.code f_M_count.1 f_M_count.2.1 f_M_count.2.2.1 f_M_count.2.2.2.1 ∈ jw_ws := jw_in (List.mem_append_right _ (List.mem_of_getElem? (i := 594) rfl)) rfl
set_option maxRecDepth 100000 in
theorem jw_cd_f_M_differ : Cond.code f_M_differ.1 f_M_differ.2.1 f_M_differ.2.2.1 f_M_differ.2.2.2.1 ∈ jw_ws := jw_in (List.mem_append_right _ (List.mem_of_getElem? (i := 606) rfl)) rfl
set_option maxRecDepth 100000 in
theorem jw_cd_f_M_exchange : Cond.code f_M_exchange.1 f_M_exchange.2.1 f_M_exchange.2.2.1 f_M_exchange.2.2.2.1 ∈ jw_ws := jw_in (List.mem_append_right _ (List.mem_of_getElem? (i := 610) rfl)) rfl
set_option maxRecDepth 100000 in
theorem jw_cd_f_M_homes : Cond.code f_M_homes.1 f_M_homes.2.1 f_M_homes.2.2.1 f_M_homes.2.2.2.1 ∈ jw_ws := jw_in (List.mem_append_right _ (List.mem_of_getElem? (i := 530) rfl)) rfl
set_option maxRecDepth 100000 in
theorem jw_cd_f_M_isFound : Cond.code f_M_isFound.1 f_M_isFound.2.1 f_M_isFound.2.2.1 f_M_isFound.2.2.2.1 ∈ jw_ws := jw_in (List.mem_append_right _ (List.mem_of_getElem? (i := 566) rfl)) rfl
set_option maxRecDepth 100000 in
theorem jw_cd_f_M_isHome : Cond.code f_M_isHome.1 f_M_isHome.2.1 f_M_isHome.2.2.1 f_M_isHome.2.2.2.1 ∈ jw_ws := jw_in (List.mem_append_right _ (List.mem_of_getElem? (i := 598) rfl)) rfl
set_option maxRecDepth 100000 in
theorem jw_cd_f_M_isKey : Cond.code f_M_isKey.1 f_M_isKey.2.1 f_M_isKey.2.2.1 f_M_isKey.2.2.2.1 ∈ jw_ws := jw_in (List.mem_append_right _ (List.mem_of_getElem? (i := 518) rfl)) rfl
set_option maxRecDepth 100000 in
theorem jw_cd_f_M_isNode : Cond.code f_M_isNode.1 f_M_isNode.2.1 f_M_isNode.2.2.1 f_M_isNode.2.2.2.1 ∈ jw_ws := jw_in (List.mem_append_right _ (List.mem_of_getElem? (i := 499) rfl)) rfl
set_option maxRecDepth 100000 in
theorem jw_cd_f_M_list : Cond.code f_M_list.1 f_M_list.2.1 f_M_list.2.2.1 f_M_list.2.2.2.1 ∈ jw_ws := jw_in (List.mem_append_right _ (List.mem_of_getElem? (i := 522) rfl)) rfl
set_option maxRecDepth 100000 in
theorem jw_cd_f_M_moved : Cond.code f_M_moved.1 f_M_moved.2.1 f_M_moved.2.2.1 f_M_moved.2.2.2.1 ∈ jw_ws := jw_in (List.mem_append_right _ (List.mem_of_getElem? (i := 590) rfl)) rfl
set_option maxRecDepth 100000 in
theorem jw_cd_f_M_placeIn : Cond.code f_M_placeIn.1 f_M_placeIn.2.1 f_M_placeIn.2.2.1 f_M_placeIn.2.2.2.1 ∈ jw_ws := jw_in (List.mem_append_right _ (List.mem_of_getElem? (i := 526) rfl)) rfl
set_option maxRecDepth 100000 in
theorem jw_cd_f_M_reaches : Cond.code f_M_reaches.1 f_M_reaches.2.1 f_M_reaches.2.2.1 f_M_reaches.2.2.2.1 ∈ jw_ws := jw_in (List.mem_append_right _ (List.mem_of_getElem? (i := 542) rfl)) rfl
set_option maxRecDepth 100000 in
theorem jw_cd_f_M_repair : Cond.code f_M_repair.1 f_M_repair.2.1 f_M_repair.2.2.1 f_M_repair.2.2.2.1 ∈ jw_ws := jw_in (List.mem_append_right _ (List.mem_of_getElem? (i := 574) rfl)) rfl
set_option maxRecDepth 100000 in
theorem jw_cd_f_M_shown : Cond.code f_M_shown.1 f_M_shown.2.1 f_M_shown.2.2.1 f_M_shown.2.2.2.1 ∈ jw_ws := jw_in (List.mem_append_right _ (List.mem_of_getElem? (i := 570) rfl)) rfl
set_option maxRecDepth 100000 in
theorem jw_cd_f_M_standsFor : Cond.code f_M_standsFor.1 f_M_standsFor.2.1 f_M_standsFor.2.2.1 f_M_standsFor.2.2.2.1 ∈ jw_ws := jw_in (List.mem_append_right _ (List.mem_of_getElem? (i := 550) rfl)) rfl
set_option maxRecDepth 100000 in
theorem jw_cd_f_M_take : Cond.code f_M_take.1 f_M_take.2.1 f_M_take.2.2.1 f_M_take.2.2.2.1 ∈ jw_ws := jw_in (List.mem_append_right _ (List.mem_of_getElem? (i := 554) rfl)) rfl
set_option maxRecDepth 100000 in
theorem jw_cd_f_N_dropAll : Cond.code f_N_dropAll.1 f_N_dropAll.2.1 f_N_dropAll.2.2.1 f_N_dropAll.2.2.2.1 ∈ jw_ws := jw_in (List.mem_append_right _ (List.mem_of_getElem? (i := 353) rfl)) rfl
set_option maxRecDepth 100000 in
theorem jw_cd_f_N_hasBeside : Cond.code f_N_hasBeside.1 f_N_hasBeside.2.1 f_N_hasBeside.2.2.1 f_N_hasBeside.2.2.2.1 ∈ jw_ws := jw_in (List.mem_append_right _ (List.mem_of_getElem? (i := 264) rfl)) rfl
set_option maxRecDepth 100000 in
theorem jw_cd_f_N_hasHintOf : Cond.code f_N_hasHintOf.1 f_N_hasHintOf.2.1 f_N_hasHintOf.2.2.1 f_N_hasHintOf.2.2.2.1 ∈ jw_ws := jw_in (List.mem_append_right _ (List.mem_of_getElem? (i := 292) rfl)) rfl
set_option maxRecDepth 100000 in
theorem jw_cd_f_N_isPassed : Cond.code f_N_isPassed.1 f_N_isPassed.2.1 f_N_isPassed.2.2.1 f_N_isPassed.2.2.2.1 ∈ jw_ws := jw_in (List.mem_append_right _ (List.mem_of_getElem? (i := 260) rfl)) rfl
set_option maxRecDepth 100000 in
theorem jw_cd_f_N_take : Cond.code f_N_take.1 f_N_take.2.1 f_N_take.2.2.1 f_N_take.2.2.2.1 ∈ jw_ws := jw_in (List.mem_append_right _ (List.mem_of_getElem? (i := 256) rfl)) rfl
set_option maxRecDepth 100000 in
theorem jw_cd_f_N_takeAll : Cond.code f_N_takeAll.1 f_N_takeAll.2.1 f_N_takeAll.2.2.1 f_N_takeAll.2.2.2.1 ∈ jw_ws := jw_in (List.mem_append_right _ (List.mem_of_getElem? (i := 316) rfl)) rfl
set_option maxRecDepth 100000 in
theorem jw_cd_f_N_writeOut : Cond.code f_N_writeOut.1 f_N_writeOut.2.1 f_N_writeOut.2.2.1 f_N_writeOut.2.2.2.1 ∈ jw_ws := jw_in (List.mem_append_right _ (List.mem_of_getElem? (i := 341) rfl)) rfl
set_option maxRecDepth 100000 in
theorem jw_cd_f_R_hasHome : Cond.code f_R_hasHome.1 f_R_hasHome.2.1 f_R_hasHome.2.2.1 f_R_hasHome.2.2.2.1 ∈ jw_ws := jw_in (List.mem_append_right _ (List.mem_of_getElem? (i := 345) rfl)) rfl
set_option maxRecDepth 100000 in
theorem jw_cd_f_R_isAmongFirst : Cond.code f_R_isAmongFirst.1 f_R_isAmongFirst.2.1 f_R_isAmongFirst.2.2.1 f_R_isAmongFirst.2.2.2.1 ∈ jw_ws := jw_in (List.mem_append_right _ (List.mem_of_getElem? (i := 230) rfl)) rfl
set_option maxRecDepth 100000 in
theorem jw_cd_f_R_lookUp : Cond.code f_R_lookUp.1 f_R_lookUp.2.1 f_R_lookUp.2.2.1 f_R_lookUp.2.2.2.1 ∈ jw_ws := jw_in (List.mem_append_right _ (List.mem_of_getElem? (i := 226) rfl)) rfl
set_option maxRecDepth 100000 in
theorem jw_cd_f_V_aim : Cond.code f_V_aim.1 f_V_aim.2.1 f_V_aim.2.2.1 f_V_aim.2.2.2.1 ∈ jw_ws := jw_in (List.mem_append_right _ (List.mem_of_getElem? (i := 222) rfl)) rfl
set_option maxRecDepth 100000 in
theorem jw_cd_f_V_areTwoNodes : Cond.code f_V_areTwoNodes.1 f_V_areTwoNodes.2.1 f_V_areTwoNodes.2.2.1 f_V_areTwoNodes.2.2.2.1 ∈ jw_ws := jw_in (List.mem_append_right _ (List.mem_of_getElem? (i := 194) rfl)) rfl
set_option maxRecDepth 100000 in
theorem jw_cd_f_V_countComparedParts : Cond.code f_V_countComparedParts.1 f_V_countComparedParts.2.1 f_V_countComparedParts.2.2.1 f_V_countComparedParts.2.2.2.1 ∈ jw_ws := jw_in (List.mem_append_right _ (List.mem_of_getElem? (i := 373) rfl)) rfl
set_option maxRecDepth 100000 in
theorem jw_cd_f_V_differ : Cond.code f_V_differ.1 f_V_differ.2.1 f_V_differ.2.2.1 f_V_differ.2.2.2.1 ∈ jw_ws := jw_in (List.mem_append_right _ (List.mem_of_getElem? (i := 365) rfl)) rfl
set_option maxRecDepth 100000 in
theorem jw_cd_f_V_exchange : Cond.code f_V_exchange.1 f_V_exchange.2.1 f_V_exchange.2.2.1 f_V_exchange.2.2.2.1 ∈ jw_ws := jw_in (List.mem_append_right _ (List.mem_of_getElem? (i := 369) rfl)) rfl
set_option maxRecDepth 100000 in
theorem jw_cd_f_V_handOverHints : Cond.code f_V_handOverHints.1 f_V_handOverHints.2.1 f_V_handOverHints.2.2.1 f_V_handOverHints.2.2.2.1 ∈ jw_ws := jw_in (List.mem_append_right _ (List.mem_of_getElem? (i := 333) rfl)) rfl
set_option maxRecDepth 100000 in
theorem jw_cd_f_V_handOverKey : Cond.code f_V_handOverKey.1 f_V_handOverKey.2.1 f_V_handOverKey.2.2.1 f_V_handOverKey.2.2.2.1 ∈ jw_ws := jw_in (List.mem_append_right _ (List.mem_of_getElem? (i := 337) rfl)) rfl
set_option maxRecDepth 100000 in
theorem jw_cd_f_V_isAtSomeTarget : Cond.code f_V_isAtSomeTarget.1 f_V_isAtSomeTarget.2.1 f_V_isAtSomeTarget.2.2.1 f_V_isAtSomeTarget.2.2.2.1 ∈ jw_ws := jw_in (List.mem_append_right _ (List.mem_of_getElem? (i := 288) rfl)) rfl
set_option maxRecDepth 100000 in
theorem jw_cd_f_V_isContext : Cond.code f_V_isContext.1 f_V_isContext.2.1 f_V_isContext.2.2.1 f_V_isContext.2.2.2.1 ∈ jw_ws := jw_in (List.mem_append_right _ (List.mem_of_getElem? (i := 214) rfl)) rfl
set_option maxRecDepth 100000 in
theorem jw_cd_f_V_isKey : Cond.code f_V_isKey.1 f_V_isKey.2.1 f_V_isKey.2.2.1 f_V_isKey.2.2.2.1 ∈ jw_ws := jw_in (List.mem_append_right _ (List.mem_of_getElem? (i := 207) rfl)) rfl
set_option maxRecDepth 100000 in
theorem jw_cd_f_V_isNode : Cond.code f_V_isNode.1 f_V_isNode.2.1 f_V_isNode.2.2.1 f_V_isNode.2.2.2.1 ∈ jw_ws := jw_in (List.mem_append_right _ (List.mem_of_getElem? (i := 176) rfl)) rfl
set_option maxRecDepth 100000 in
theorem jw_cd_f_V_isPassedBySeen : Cond.code f_V_isPassedBySeen.1 f_V_isPassedBySeen.2.1 f_V_isPassedBySeen.2.2.1 f_V_isPassedBySeen.2.2.2.1 ∈ jw_ws := jw_in (List.mem_append_right _ (List.mem_of_getElem? (i := 300) rfl)) rfl
set_option maxRecDepth 100000 in
theorem jw_cd_f_V_isPosition : Cond.code f_V_isPosition.1 f_V_isPosition.2.1 f_V_isPosition.2.2.1 f_V_isPosition.2.2.2.1 ∈ jw_ws := jw_in (List.mem_append_right _ (List.mem_of_getElem? (i := 179) rfl)) rfl
set_option maxRecDepth 100000 in
theorem jw_cd_f_V_keepLatest : Cond.code f_V_keepLatest.1 f_V_keepLatest.2.1 f_V_keepLatest.2.2.1 f_V_keepLatest.2.2.2.1 ∈ jw_ws := jw_in (List.mem_append_right _ (List.mem_of_getElem? (i := 296) rfl)) rfl
set_option maxRecDepth 100000 in
theorem jw_cd_f_V_leaveHints : Cond.code f_V_leaveHints.1 f_V_leaveHints.2.1 f_V_leaveHints.2.2.1 f_V_leaveHints.2.2.2.1 ∈ jw_ws := jw_in (List.mem_append_right _ (List.mem_of_getElem? (i := 276) rfl)) rfl
set_option maxRecDepth 100000 in
theorem jw_cd_f_V_line : Cond.code f_V_line.1 f_V_line.2.1 f_V_line.2.2.1 f_V_line.2.2.2.1 ∈ jw_ws := jw_in (List.mem_append_right _ (List.mem_of_getElem? (i := 197) rfl)) rfl
set_option maxRecDepth 100000 in
theorem jw_cd_f_V_lookAtTargets : Cond.code f_V_lookAtTargets.1 f_V_lookAtTargets.2.1 f_V_lookAtTargets.2.2.1 f_V_lookAtTargets.2.2.2.1 ∈ jw_ws := jw_in (List.mem_append_right _ (List.mem_of_getElem? (i := 284) rfl)) rfl
set_option maxRecDepth 100000 in
theorem jw_cd_f_V_mayKnow : Cond.code f_V_mayKnow.1 f_V_mayKnow.2.1 f_V_mayKnow.2.2.1 f_V_mayKnow.2.2.2.1 ∈ jw_ws := jw_in (List.mem_append_right _ (List.mem_of_getElem? (i := 211) rfl)) rfl
set_option maxRecDepth 100000 in
theorem jw_cd_f_V_reaches : Cond.code f_V_reaches.1 f_V_reaches.2.1 f_V_reaches.2.2.1 f_V_reaches.2.2.2.1 ∈ jw_ws := jw_in (List.mem_append_right _ (List.mem_of_getElem? (i := 235) rfl)) rfl
set_option maxRecDepth 100000 in
theorem jw_cd_f_V_reachesAllHomes : Cond.code f_V_reachesAllHomes.1 f_V_reachesAllHomes.2.1 f_V_reachesAllHomes.2.2.1 f_V_reachesAllHomes.2.2.2.1 ∈ jw_ws := jw_in (List.mem_append_right _ (List.mem_of_getElem? (i := 349) rfl)) rfl
set_option maxRecDepth 100000 in
theorem jw_cd_f_V_sendToHomes : Cond.code f_V_sendToHomes.1 f_V_sendToHomes.2.1 f_V_sendToHomes.2.2.1 f_V_sendToHomes.2.2.2.1 ∈ jw_ws := jw_in (List.mem_append_right _ (List.mem_of_getElem? (i := 252) rfl)) rfl
set_option maxRecDepth 100000 in
theorem jw_cd_f_V_share : Cond.code f_V_share.1 f_V_share.2.1 f_V_share.2.2.1 f_V_share.2.2.2.1 ∈ jw_ws := jw_in (List.mem_append_right _ (List.mem_of_getElem? (i := 361) rfl)) rfl
theorem jw_ml_V_7 : Cond.methodLink R_V 7 Lib.Math.min.name ∈ jw_ws := jw_in (by decide +kernel) (by decide +kernel)
theorem jw_ml_V_77 : jw_ok R_V 77 f_V_isNode 1 := ⟨jw_in (by decide +kernel) (by decide +kernel), jw_in (by decide +kernel) (by decide +kernel), jw_cd_f_V_isNode, ⟨by decide +kernel, by decide +kernel, by decide +kernel⟩⟩
theorem jw_ml_V_81 : jw_ok R_V 81 f_V_isPosition 1 := ⟨jw_in (by decide +kernel) (by decide +kernel), jw_in (by decide +kernel) (by decide +kernel), jw_cd_f_V_isPosition, ⟨by decide +kernel, by decide +kernel, by decide +kernel⟩⟩
theorem jw_ml_V_91 : jw_ok R_V 91 f_V_areTwoNodes 2 := ⟨jw_in (by decide +kernel) (by decide +kernel), jw_in (by decide +kernel) (by decide +kernel), jw_cd_f_V_areTwoNodes, ⟨by decide +kernel, by decide +kernel, by decide +kernel⟩⟩
theorem jw_ml_V_95 : jw_ok R_V 95 f_V_line 2 := ⟨jw_in (by decide +kernel) (by decide +kernel), jw_in (by decide +kernel) (by decide +kernel), jw_cd_f_V_line, ⟨by decide +kernel, by decide +kernel, by decide +kernel⟩⟩
theorem jw_ml_V_98 : jw_ok R_V 98 f_V_isKey 1 := ⟨jw_in (by decide +kernel) (by decide +kernel), jw_in (by decide +kernel) (by decide +kernel), jw_cd_f_V_isKey, ⟨by decide +kernel, by decide +kernel, by decide +kernel⟩⟩
theorem jw_ml_V_101 : jw_ok R_V 101 f_V_mayKnow 2 := ⟨jw_in (by decide +kernel) (by decide +kernel), jw_in (by decide +kernel) (by decide +kernel), jw_cd_f_V_mayKnow, ⟨by decide +kernel, by decide +kernel, by decide +kernel⟩⟩
theorem jw_ml_V_107 : jw_ok R_V 107 f_V_aim 2 := ⟨jw_in (by decide +kernel) (by decide +kernel), jw_in (by decide +kernel) (by decide +kernel), jw_cd_f_V_aim, ⟨by decide +kernel, by decide +kernel, by decide +kernel⟩⟩
theorem jw_ml_V_120 : jw_ok R_V 120 f_G_add 4 := ⟨jw_in (by decide +kernel) (by decide +kernel), jw_in (by decide +kernel) (by decide +kernel), jw_cd_f_G_add, ⟨by decide +kernel, by decide +kernel, by decide +kernel⟩⟩
theorem jw_ml_V_124 : jw_ok R_V 124 f_V_sendToHomes 1 := ⟨jw_in (by decide +kernel) (by decide +kernel), jw_in (by decide +kernel) (by decide +kernel), jw_cd_f_V_sendToHomes, ⟨by decide +kernel, by decide +kernel, by decide +kernel⟩⟩
theorem jw_ml_V_127 : jw_ok R_V 127 f_V_leaveHints 2 := ⟨jw_in (by decide +kernel) (by decide +kernel), jw_in (by decide +kernel) (by decide +kernel), jw_cd_f_V_leaveHints, ⟨by decide +kernel, by decide +kernel, by decide +kernel⟩⟩
theorem jw_ml_V_130 : jw_ok R_V 130 f_V_isContext 1 := ⟨jw_in (by decide +kernel) (by decide +kernel), jw_in (by decide +kernel) (by decide +kernel), jw_cd_f_V_isContext, ⟨by decide +kernel, by decide +kernel, by decide +kernel⟩⟩
theorem jw_ml_V_133 : jw_ok R_V 133 f_V_lookAtTargets 1 := ⟨jw_in (by decide +kernel) (by decide +kernel), jw_in (by decide +kernel) (by decide +kernel), jw_cd_f_V_lookAtTargets, ⟨by decide +kernel, by decide +kernel, by decide +kernel⟩⟩
theorem jw_ml_V_136 : jw_ok R_V 136 f_V_keepLatest 0 := ⟨jw_in (by decide +kernel) (by decide +kernel), jw_in (by decide +kernel) (by decide +kernel), jw_cd_f_V_keepLatest, ⟨by decide +kernel, by decide +kernel, by decide +kernel⟩⟩
theorem jw_ml_V_140 : jw_ok R_V 140 f_C_learn 3 := ⟨jw_in (by decide +kernel) (by decide +kernel), jw_in (by decide +kernel) (by decide +kernel), jw_cd_f_C_learn, ⟨by decide +kernel, by decide +kernel, by decide +kernel⟩⟩
theorem jw_ml_V_150 : jw_ok R_V 150 f_N_takeAll 1 := ⟨jw_in (by decide +kernel) (by decide +kernel), jw_in (by decide +kernel) (by decide +kernel), jw_cd_f_N_takeAll, ⟨by decide +kernel, by decide +kernel, by decide +kernel⟩⟩
theorem jw_ml_V_154 : jw_ok R_V 154 f_V_handOverHints 1 := ⟨jw_in (by decide +kernel) (by decide +kernel), jw_in (by decide +kernel) (by decide +kernel), jw_cd_f_V_handOverHints, ⟨by decide +kernel, by decide +kernel, by decide +kernel⟩⟩
theorem jw_ml_V_158 : jw_ok R_V 158 f_V_handOverKey 2 := ⟨jw_in (by decide +kernel) (by decide +kernel), jw_in (by decide +kernel) (by decide +kernel), jw_cd_f_V_handOverKey, ⟨by decide +kernel, by decide +kernel, by decide +kernel⟩⟩
theorem jw_ml_V_161 : jw_ok R_V 161 f_V_reaches 2 := ⟨jw_in (by decide +kernel) (by decide +kernel), jw_in (by decide +kernel) (by decide +kernel), jw_cd_f_V_reaches, ⟨by decide +kernel, by decide +kernel, by decide +kernel⟩⟩
theorem jw_ml_V_164 : jw_ok R_V 164 f_V_share 3 := ⟨jw_in (by decide +kernel) (by decide +kernel), jw_in (by decide +kernel) (by decide +kernel), jw_cd_f_V_share, ⟨by decide +kernel, by decide +kernel, by decide +kernel⟩⟩
theorem jw_ml_V_168 : jw_ok R_V 168 f_V_differ 3 := ⟨jw_in (by decide +kernel) (by decide +kernel), jw_in (by decide +kernel) (by decide +kernel), jw_cd_f_V_differ, ⟨by decide +kernel, by decide +kernel, by decide +kernel⟩⟩
theorem jw_ml_V_171 : jw_ok R_V 171 f_V_exchange 3 := ⟨jw_in (by decide +kernel) (by decide +kernel), jw_in (by decide +kernel) (by decide +kernel), jw_cd_f_V_exchange, ⟨by decide +kernel, by decide +kernel, by decide +kernel⟩⟩
theorem jw_ml_V_175 : jw_ok R_V 175 f_V_countComparedParts 0 := ⟨jw_in (by decide +kernel) (by decide +kernel), jw_in (by decide +kernel) (by decide +kernel), jw_cd_f_V_countComparedParts, ⟨by decide +kernel, by decide +kernel, by decide +kernel⟩⟩
theorem jw_ml_V_178 : jw_ok R_V 178 f_R_lookUp 1 := ⟨jw_in (by decide +kernel) (by decide +kernel), jw_in (by decide +kernel) (by decide +kernel), jw_cd_f_R_lookUp, ⟨by decide +kernel, by decide +kernel, by decide +kernel⟩⟩
theorem jw_ml_V_187 : jw_ok R_V 187 f_G_isMade 1 := ⟨jw_in (by decide +kernel) (by decide +kernel), jw_in (by decide +kernel) (by decide +kernel), jw_cd_f_G_isMade, ⟨by decide +kernel, by decide +kernel, by decide +kernel⟩⟩
theorem jw_ml_V_193 : jw_ok R_V 193 f_N_hasHintOf 1 := ⟨jw_in (by decide +kernel) (by decide +kernel), jw_in (by decide +kernel) (by decide +kernel), jw_cd_f_N_hasHintOf, ⟨by decide +kernel, by decide +kernel, by decide +kernel⟩⟩
theorem jw_ml_V_196 : jw_ok R_V 196 f_N_writeOut 2 := ⟨jw_in (by decide +kernel) (by decide +kernel), jw_in (by decide +kernel) (by decide +kernel), jw_cd_f_N_writeOut, ⟨by decide +kernel, by decide +kernel, by decide +kernel⟩⟩
theorem jw_ml_V_206 : jw_ok R_V 206 f_G_clockCount 2 := ⟨jw_in (by decide +kernel) (by decide +kernel), jw_in (by decide +kernel) (by decide +kernel), jw_cd_f_G_clockCount, ⟨by decide +kernel, by decide +kernel, by decide +kernel⟩⟩
theorem jw_ml_V_209 : jw_ok R_V 209 f_C_isEmpty 0 := ⟨jw_in (by decide +kernel) (by decide +kernel), jw_in (by decide +kernel) (by decide +kernel), jw_cd_f_C_isEmpty, ⟨by decide +kernel, by decide +kernel, by decide +kernel⟩⟩
theorem jw_ml_V_216 : Cond.methodLink R_V 216 Lib.Math.max.name ∈ jw_ws := jw_in (by decide +kernel) (by decide +kernel)
theorem jw_ml_V_225 : jw_ok R_V 225 f_N_take 1 := ⟨jw_in (by decide +kernel) (by decide +kernel), jw_in (by decide +kernel) (by decide +kernel), jw_cd_f_N_take, ⟨by decide +kernel, by decide +kernel, by decide +kernel⟩⟩
theorem jw_ml_V_231 : jw_ok R_V 231 f_V_isAtSomeTarget 1 := ⟨jw_in (by decide +kernel) (by decide +kernel), jw_in (by decide +kernel) (by decide +kernel), jw_cd_f_V_isAtSomeTarget, ⟨by decide +kernel, by decide +kernel, by decide +kernel⟩⟩
theorem jw_ml_V_234 : jw_ok R_V 234 f_V_isPassedBySeen 1 := ⟨jw_in (by decide +kernel) (by decide +kernel), jw_in (by decide +kernel) (by decide +kernel), jw_cd_f_V_isPassedBySeen, ⟨by decide +kernel, by decide +kernel, by decide +kernel⟩⟩
theorem jw_ml_V_237 : jw_ok R_V 237 f_G_isAtOrBelow 2 := ⟨jw_in (by decide +kernel) (by decide +kernel), jw_in (by decide +kernel) (by decide +kernel), jw_cd_f_G_isAtOrBelow, ⟨by decide +kernel, by decide +kernel, by decide +kernel⟩⟩
theorem jw_ml_V_240 : jw_ok R_V 240 f_R_hasHome 1 := ⟨jw_in (by decide +kernel) (by decide +kernel), jw_in (by decide +kernel) (by decide +kernel), jw_cd_f_R_hasHome, ⟨by decide +kernel, by decide +kernel, by decide +kernel⟩⟩
theorem jw_ml_V_243 : jw_ok R_V 243 f_V_reachesAllHomes 1 := ⟨jw_in (by decide +kernel) (by decide +kernel), jw_in (by decide +kernel) (by decide +kernel), jw_cd_f_V_reachesAllHomes, ⟨by decide +kernel, by decide +kernel, by decide +kernel⟩⟩
theorem jw_ml_V_246 : jw_ok R_V 246 f_N_dropAll 1 := ⟨jw_in (by decide +kernel) (by decide +kernel), jw_in (by decide +kernel) (by decide +kernel), jw_cd_f_N_dropAll, ⟨by decide +kernel, by decide +kernel, by decide +kernel⟩⟩
theorem jw_ml_C_19 : jw_ok R_C 19 f_J_fill 2 := ⟨jw_in (by decide +kernel) (by decide +kernel), jw_in (by decide +kernel) (by decide +kernel), jw_cd_f_J_fill, ⟨by decide +kernel, by decide +kernel, by decide +kernel⟩⟩
theorem jw_ml_C_30 : jw_ok R_C 30 f_C_rise 2 := ⟨jw_in (by decide +kernel) (by decide +kernel), jw_in (by decide +kernel) (by decide +kernel), jw_cd_f_C_rise, ⟨by decide +kernel, by decide +kernel, by decide +kernel⟩⟩
theorem jw_ml_C_34 : jw_ok R_C 34 f_G_clockCount 2 := ⟨jw_in (by decide +kernel) (by decide +kernel), jw_in (by decide +kernel) (by decide +kernel), jw_cd_f_G_clockCount, ⟨by decide +kernel, by decide +kernel, by decide +kernel⟩⟩
theorem jw_ml_C_38 : Cond.methodLink R_C 38 Lib.Math.max.name ∈ jw_ws := jw_in (by decide +kernel) (by decide +kernel)
theorem jw_ml_G_28 : Cond.methodLink R_G 28 arraycopyName ∈ jw_ws := jw_in (by decide +kernel) (by decide +kernel)
theorem jw_ml_G_34 : jw_ok R_G 34 f_G_numberWritten 2 := ⟨jw_in (by decide +kernel) (by decide +kernel), jw_in (by decide +kernel) (by decide +kernel), jw_cd_f_G_numberWritten, ⟨by decide +kernel, by decide +kernel, by decide +kernel⟩⟩
theorem jw_ml_G_38 : jw_ok R_G 38 f_G_clockCount 2 := ⟨jw_in (by decide +kernel) (by decide +kernel), jw_in (by decide +kernel) (by decide +kernel), jw_cd_f_G_clockCount, ⟨by decide +kernel, by decide +kernel, by decide +kernel⟩⟩
theorem jw_ml_N_33 : jw_ok R_N 33 f_N_isPassed 1 := ⟨jw_in (by decide +kernel) (by decide +kernel), jw_in (by decide +kernel) (by decide +kernel), jw_cd_f_N_isPassed, ⟨by decide +kernel, by decide +kernel, by decide +kernel⟩⟩
theorem jw_ml_N_43 : jw_ok R_N 43 f_N_hasBeside 2 := ⟨jw_in (by decide +kernel) (by decide +kernel), jw_in (by decide +kernel) (by decide +kernel), jw_cd_f_N_hasBeside, ⟨by decide +kernel, by decide +kernel, by decide +kernel⟩⟩
theorem jw_ml_N_47 : jw_ok R_N 47 f_G_isAtOrBelow 2 := ⟨jw_in (by decide +kernel) (by decide +kernel), jw_in (by decide +kernel) (by decide +kernel), jw_cd_f_G_isAtOrBelow, ⟨by decide +kernel, by decide +kernel, by decide +kernel⟩⟩
theorem jw_ml_N_53 : jw_ok R_N 53 f_N_take 1 := ⟨jw_in (by decide +kernel) (by decide +kernel), jw_in (by decide +kernel) (by decide +kernel), jw_cd_f_N_take, ⟨by decide +kernel, by decide +kernel, by decide +kernel⟩⟩
theorem jw_ml_R_31 : jw_ok R_R 31 f_R_isAmongFirst 2 := ⟨jw_in (by decide +kernel) (by decide +kernel), jw_in (by decide +kernel) (by decide +kernel), jw_cd_f_R_isAmongFirst, ⟨by decide +kernel, by decide +kernel, by decide +kernel⟩⟩
theorem jw_ml_R_35 : Cond.methodLink R_R 35 Lib.Math.min.name ∈ jw_ws := jw_in (by decide +kernel) (by decide +kernel)
theorem jw_ml_M_69 : jw_ok R_M 69 f_M_isNode 1 := ⟨jw_in (by decide +kernel) (by decide +kernel), jw_in (by decide +kernel) (by decide +kernel), jw_cd_f_M_isNode, ⟨by decide +kernel, by decide +kernel, by decide +kernel⟩⟩
theorem jw_ml_M_76 : jw_ok R_M 76 f_M_placeIn 1 := ⟨jw_in (by decide +kernel) (by decide +kernel), jw_in (by decide +kernel) (by decide +kernel), jw_cd_f_M_placeIn, ⟨by decide +kernel, by decide +kernel, by decide +kernel⟩⟩
theorem jw_ml_M_80 : jw_ok R_M 80 f_M_list 1 := ⟨jw_in (by decide +kernel) (by decide +kernel), jw_in (by decide +kernel) (by decide +kernel), jw_cd_f_M_list, ⟨by decide +kernel, by decide +kernel, by decide +kernel⟩⟩
theorem jw_ml_M_84 : jw_ok R_M 84 f_M_isKey 1 := ⟨jw_in (by decide +kernel) (by decide +kernel), jw_in (by decide +kernel) (by decide +kernel), jw_cd_f_M_isKey, ⟨by decide +kernel, by decide +kernel, by decide +kernel⟩⟩
theorem jw_ml_M_87 : jw_ok R_M 87 f_M_homes 0 := ⟨jw_in (by decide +kernel) (by decide +kernel), jw_in (by decide +kernel) (by decide +kernel), jw_cd_f_M_homes, ⟨by decide +kernel, by decide +kernel, by decide +kernel⟩⟩
theorem jw_ml_M_94 : jw_ok R_M 94 f_M_reaches 2 := ⟨jw_in (by decide +kernel) (by decide +kernel), jw_in (by decide +kernel) (by decide +kernel), jw_cd_f_M_reaches, ⟨by decide +kernel, by decide +kernel, by decide +kernel⟩⟩
theorem jw_ml_M_98 : jw_ok R_M 98 f_M_aim 2 := ⟨jw_in (by decide +kernel) (by decide +kernel), jw_in (by decide +kernel) (by decide +kernel), jw_cd_f_M_aim, ⟨by decide +kernel, by decide +kernel, by decide +kernel⟩⟩
theorem jw_ml_M_105 : jw_ok R_M 105 f_M_below 2 := ⟨jw_in (by decide +kernel) (by decide +kernel), jw_in (by decide +kernel) (by decide +kernel), jw_cd_f_M_below, ⟨by decide +kernel, by decide +kernel, by decide +kernel⟩⟩
theorem jw_ml_M_108 : jw_ok R_M 108 f_M_standsFor 2 := ⟨jw_in (by decide +kernel) (by decide +kernel), jw_in (by decide +kernel) (by decide +kernel), jw_cd_f_M_standsFor, ⟨by decide +kernel, by decide +kernel, by decide +kernel⟩⟩
theorem jw_ml_M_112 : jw_ok R_M 112 f_M_take 2 := ⟨jw_in (by decide +kernel) (by decide +kernel), jw_in (by decide +kernel) (by decide +kernel), jw_cd_f_M_take, ⟨by decide +kernel, by decide +kernel, by decide +kernel⟩⟩
theorem jw_ml_M_115 : jw_ok R_M 115 f_M_shown 1 := ⟨jw_in (by decide +kernel) (by decide +kernel), jw_in (by decide +kernel) (by decide +kernel), jw_cd_f_M_shown, ⟨by decide +kernel, by decide +kernel, by decide +kernel⟩⟩
theorem jw_ml_M_121 : jw_ok R_M 121 f_M_isFound 2 := ⟨jw_in (by decide +kernel) (by decide +kernel), jw_in (by decide +kernel) (by decide +kernel), jw_cd_f_M_isFound, ⟨by decide +kernel, by decide +kernel, by decide +kernel⟩⟩
theorem jw_ml_M_124 : jw_ok R_M 124 f_M_repair 0 := ⟨jw_in (by decide +kernel) (by decide +kernel), jw_in (by decide +kernel) (by decide +kernel), jw_cd_f_M_repair, ⟨by decide +kernel, by decide +kernel, by decide +kernel⟩⟩
theorem jw_ml_M_130 : jw_ok R_M 130 f_M_moved 2 := ⟨jw_in (by decide +kernel) (by decide +kernel), jw_in (by decide +kernel) (by decide +kernel), jw_cd_f_M_moved, ⟨by decide +kernel, by decide +kernel, by decide +kernel⟩⟩
theorem jw_ml_M_133 : jw_ok R_M 133 f_M_count 2 := ⟨jw_in (by decide +kernel) (by decide +kernel), jw_in (by decide +kernel) (by decide +kernel), jw_cd_f_M_count, ⟨by decide +kernel, by decide +kernel, by decide +kernel⟩⟩
theorem jw_ml_M_136 : jw_ok R_M 136 f_M_isHome 2 := ⟨jw_in (by decide +kernel) (by decide +kernel), jw_in (by decide +kernel) (by decide +kernel), jw_cd_f_M_isHome, ⟨by decide +kernel, by decide +kernel, by decide +kernel⟩⟩
theorem jw_ml_M_139 : jw_ok R_M 139 f_M_differ 3 := ⟨jw_in (by decide +kernel) (by decide +kernel), jw_in (by decide +kernel) (by decide +kernel), jw_cd_f_M_differ, ⟨by decide +kernel, by decide +kernel, by decide +kernel⟩⟩
theorem jw_ml_M_143 : jw_ok R_M 143 f_M_exchange 3 := ⟨jw_in (by decide +kernel) (by decide +kernel), jw_in (by decide +kernel) (by decide +kernel), jw_cd_f_M_exchange, ⟨by decide +kernel, by decide +kernel, by decide +kernel⟩⟩
theorem jw_in_f_C_isEmpty : Cond.instanceMethod f_C_isEmpty.1 ∈ jw_ws := jw_in (by decide +kernel) (by decide +kernel)
theorem jw_se_f_C_isEmpty : Cond.selects f_C_isEmpty.1.cls f_C_isEmpty.1 f_C_isEmpty.1 ∈ jw_ws := jw_in (by decide +kernel) (by decide +kernel)
theorem jw_in_f_C_learn : Cond.instanceMethod f_C_learn.1 ∈ jw_ws := jw_in (by decide +kernel) (by decide +kernel)
theorem jw_se_f_C_learn : Cond.selects f_C_learn.1.cls f_C_learn.1 f_C_learn.1 ∈ jw_ws := jw_in (by decide +kernel) (by decide +kernel)
theorem jw_in_f_C_rise : Cond.instanceMethod f_C_rise.1 ∈ jw_ws := jw_in (by decide +kernel) (by decide +kernel)
theorem jw_se_f_C_rise : Cond.selects f_C_rise.1.cls f_C_rise.1 f_C_rise.1 ∈ jw_ws := jw_in (by decide +kernel) (by decide +kernel)
theorem jw_in_f_G_add : Cond.instanceMethod f_G_add.1 ∈ jw_ws := jw_in (by decide +kernel) (by decide +kernel)
theorem jw_se_f_G_add : Cond.selects f_G_add.1.cls f_G_add.1 f_G_add.1 ∈ jw_ws := jw_in (by decide +kernel) (by decide +kernel)
theorem jw_in_f_G_clockCount : Cond.instanceMethod f_G_clockCount.1 ∈ jw_ws := jw_in (by decide +kernel) (by decide +kernel)
theorem jw_se_f_G_clockCount : Cond.selects f_G_clockCount.1.cls f_G_clockCount.1 f_G_clockCount.1 ∈ jw_ws := jw_in (by decide +kernel) (by decide +kernel)
theorem jw_in_f_G_isAtOrBelow : Cond.instanceMethod f_G_isAtOrBelow.1 ∈ jw_ws := jw_in (by decide +kernel) (by decide +kernel)
theorem jw_se_f_G_isAtOrBelow : Cond.selects f_G_isAtOrBelow.1.cls f_G_isAtOrBelow.1 f_G_isAtOrBelow.1 ∈ jw_ws := jw_in (by decide +kernel) (by decide +kernel)
theorem jw_in_f_G_isMade : Cond.instanceMethod f_G_isMade.1 ∈ jw_ws := jw_in (by decide +kernel) (by decide +kernel)
theorem jw_se_f_G_isMade : Cond.selects f_G_isMade.1.cls f_G_isMade.1 f_G_isMade.1 ∈ jw_ws := jw_in (by decide +kernel) (by decide +kernel)
theorem jw_in_f_G_numberWritten : Cond.instanceMethod f_G_numberWritten.1 ∈ jw_ws := jw_in (by decide +kernel) (by decide +kernel)
theorem jw_se_f_G_numberWritten : Cond.selects f_G_numberWritten.1.cls f_G_numberWritten.1 f_G_numberWritten.1 ∈ jw_ws := jw_in (by decide +kernel) (by decide +kernel)
theorem jw_in_f_M_aim : Cond.instanceMethod f_M_aim.1 ∈ jw_ws := jw_in (by decide +kernel) (by decide +kernel)
theorem jw_se_f_M_aim : Cond.selects f_M_aim.1.cls f_M_aim.1 f_M_aim.1 ∈ jw_ws := jw_in (by decide +kernel) (by decide +kernel)
theorem jw_in_f_M_below : Cond.instanceMethod f_M_below.1 ∈ jw_ws := jw_in (by decide +kernel) (by decide +kernel)
theorem jw_se_f_M_below : Cond.selects f_M_below.1.cls f_M_below.1 f_M_below.1 ∈ jw_ws := jw_in (by decide +kernel) (by decide +kernel)
theorem jw_in_f_M_count : Cond.instanceMethod f_M_count.1 ∈ jw_ws := jw_in (by decide +kernel) (by decide +kernel)
theorem jw_se_f_M_count : Cond.selects f_M_count.1.cls f_M_count.1 f_M_count.1 ∈ jw_ws := jw_in (by decide +kernel) (by decide +kernel)
theorem jw_in_f_M_differ : Cond.instanceMethod f_M_differ.1 ∈ jw_ws := jw_in (by decide +kernel) (by decide +kernel)
theorem jw_se_f_M_differ : Cond.selects f_M_differ.1.cls f_M_differ.1 f_M_differ.1 ∈ jw_ws := jw_in (by decide +kernel) (by decide +kernel)
theorem jw_in_f_M_exchange : Cond.instanceMethod f_M_exchange.1 ∈ jw_ws := jw_in (by decide +kernel) (by decide +kernel)
theorem jw_se_f_M_exchange : Cond.selects f_M_exchange.1.cls f_M_exchange.1 f_M_exchange.1 ∈ jw_ws := jw_in (by decide +kernel) (by decide +kernel)
theorem jw_in_f_M_homes : Cond.instanceMethod f_M_homes.1 ∈ jw_ws := jw_in (by decide +kernel) (by decide +kernel)
theorem jw_se_f_M_homes : Cond.selects f_M_homes.1.cls f_M_homes.1 f_M_homes.1 ∈ jw_ws := jw_in (by decide +kernel) (by decide +kernel)
theorem jw_in_f_M_isFound : Cond.instanceMethod f_M_isFound.1 ∈ jw_ws := jw_in (by decide +kernel) (by decide +kernel)
theorem jw_se_f_M_isFound : Cond.selects f_M_isFound.1.cls f_M_isFound.1 f_M_isFound.1 ∈ jw_ws := jw_in (by decide +kernel) (by decide +kernel)
theorem jw_in_f_M_isHome : Cond.instanceMethod f_M_isHome.1 ∈ jw_ws := jw_in (by decide +kernel) (by decide +kernel)
theorem jw_se_f_M_isHome : Cond.selects f_M_isHome.1.cls f_M_isHome.1 f_M_isHome.1 ∈ jw_ws := jw_in (by decide +kernel) (by decide +kernel)
theorem jw_in_f_M_list : Cond.instanceMethod f_M_list.1 ∈ jw_ws := jw_in (by decide +kernel) (by decide +kernel)
theorem jw_se_f_M_list : Cond.selects f_M_list.1.cls f_M_list.1 f_M_list.1 ∈ jw_ws := jw_in (by decide +kernel) (by decide +kernel)
theorem jw_in_f_M_moved : Cond.instanceMethod f_M_moved.1 ∈ jw_ws := jw_in (by decide +kernel) (by decide +kernel)
theorem jw_se_f_M_moved : Cond.selects f_M_moved.1.cls f_M_moved.1 f_M_moved.1 ∈ jw_ws := jw_in (by decide +kernel) (by decide +kernel)
theorem jw_in_f_M_placeIn : Cond.instanceMethod f_M_placeIn.1 ∈ jw_ws := jw_in (by decide +kernel) (by decide +kernel)
theorem jw_se_f_M_placeIn : Cond.selects f_M_placeIn.1.cls f_M_placeIn.1 f_M_placeIn.1 ∈ jw_ws := jw_in (by decide +kernel) (by decide +kernel)
theorem jw_in_f_M_reaches : Cond.instanceMethod f_M_reaches.1 ∈ jw_ws := jw_in (by decide +kernel) (by decide +kernel)
theorem jw_se_f_M_reaches : Cond.selects f_M_reaches.1.cls f_M_reaches.1 f_M_reaches.1 ∈ jw_ws := jw_in (by decide +kernel) (by decide +kernel)
theorem jw_in_f_M_repair : Cond.instanceMethod f_M_repair.1 ∈ jw_ws := jw_in (by decide +kernel) (by decide +kernel)
theorem jw_se_f_M_repair : Cond.selects f_M_repair.1.cls f_M_repair.1 f_M_repair.1 ∈ jw_ws := jw_in (by decide +kernel) (by decide +kernel)
theorem jw_in_f_M_shown : Cond.instanceMethod f_M_shown.1 ∈ jw_ws := jw_in (by decide +kernel) (by decide +kernel)
theorem jw_se_f_M_shown : Cond.selects f_M_shown.1.cls f_M_shown.1 f_M_shown.1 ∈ jw_ws := jw_in (by decide +kernel) (by decide +kernel)
theorem jw_in_f_M_standsFor : Cond.instanceMethod f_M_standsFor.1 ∈ jw_ws := jw_in (by decide +kernel) (by decide +kernel)
theorem jw_se_f_M_standsFor : Cond.selects f_M_standsFor.1.cls f_M_standsFor.1 f_M_standsFor.1 ∈ jw_ws := jw_in (by decide +kernel) (by decide +kernel)
theorem jw_in_f_M_take : Cond.instanceMethod f_M_take.1 ∈ jw_ws := jw_in (by decide +kernel) (by decide +kernel)
theorem jw_se_f_M_take : Cond.selects f_M_take.1.cls f_M_take.1 f_M_take.1 ∈ jw_ws := jw_in (by decide +kernel) (by decide +kernel)
theorem jw_in_f_N_dropAll : Cond.instanceMethod f_N_dropAll.1 ∈ jw_ws := jw_in (by decide +kernel) (by decide +kernel)
theorem jw_se_f_N_dropAll : Cond.selects f_N_dropAll.1.cls f_N_dropAll.1 f_N_dropAll.1 ∈ jw_ws := jw_in (by decide +kernel) (by decide +kernel)
theorem jw_in_f_N_hasBeside : Cond.instanceMethod f_N_hasBeside.1 ∈ jw_ws := jw_in (by decide +kernel) (by decide +kernel)
theorem jw_se_f_N_hasBeside : Cond.selects f_N_hasBeside.1.cls f_N_hasBeside.1 f_N_hasBeside.1 ∈ jw_ws := jw_in (by decide +kernel) (by decide +kernel)
theorem jw_in_f_N_hasHintOf : Cond.instanceMethod f_N_hasHintOf.1 ∈ jw_ws := jw_in (by decide +kernel) (by decide +kernel)
theorem jw_se_f_N_hasHintOf : Cond.selects f_N_hasHintOf.1.cls f_N_hasHintOf.1 f_N_hasHintOf.1 ∈ jw_ws := jw_in (by decide +kernel) (by decide +kernel)
theorem jw_in_f_N_isPassed : Cond.instanceMethod f_N_isPassed.1 ∈ jw_ws := jw_in (by decide +kernel) (by decide +kernel)
theorem jw_se_f_N_isPassed : Cond.selects f_N_isPassed.1.cls f_N_isPassed.1 f_N_isPassed.1 ∈ jw_ws := jw_in (by decide +kernel) (by decide +kernel)
theorem jw_in_f_N_take : Cond.instanceMethod f_N_take.1 ∈ jw_ws := jw_in (by decide +kernel) (by decide +kernel)
theorem jw_se_f_N_take : Cond.selects f_N_take.1.cls f_N_take.1 f_N_take.1 ∈ jw_ws := jw_in (by decide +kernel) (by decide +kernel)
theorem jw_in_f_N_takeAll : Cond.instanceMethod f_N_takeAll.1 ∈ jw_ws := jw_in (by decide +kernel) (by decide +kernel)
theorem jw_se_f_N_takeAll : Cond.selects f_N_takeAll.1.cls f_N_takeAll.1 f_N_takeAll.1 ∈ jw_ws := jw_in (by decide +kernel) (by decide +kernel)
theorem jw_in_f_N_writeOut : Cond.instanceMethod f_N_writeOut.1 ∈ jw_ws := jw_in (by decide +kernel) (by decide +kernel)
theorem jw_se_f_N_writeOut : Cond.selects f_N_writeOut.1.cls f_N_writeOut.1 f_N_writeOut.1 ∈ jw_ws := jw_in (by decide +kernel) (by decide +kernel)
theorem jw_in_f_R_hasHome : Cond.instanceMethod f_R_hasHome.1 ∈ jw_ws := jw_in (by decide +kernel) (by decide +kernel)
theorem jw_se_f_R_hasHome : Cond.selects f_R_hasHome.1.cls f_R_hasHome.1 f_R_hasHome.1 ∈ jw_ws := jw_in (by decide +kernel) (by decide +kernel)
theorem jw_in_f_R_isAmongFirst : Cond.instanceMethod f_R_isAmongFirst.1 ∈ jw_ws := jw_in (by decide +kernel) (by decide +kernel)
theorem jw_se_f_R_isAmongFirst : Cond.selects f_R_isAmongFirst.1.cls f_R_isAmongFirst.1 f_R_isAmongFirst.1 ∈ jw_ws := jw_in (by decide +kernel) (by decide +kernel)
theorem jw_in_f_R_lookUp : Cond.instanceMethod f_R_lookUp.1 ∈ jw_ws := jw_in (by decide +kernel) (by decide +kernel)
theorem jw_se_f_R_lookUp : Cond.selects f_R_lookUp.1.cls f_R_lookUp.1 f_R_lookUp.1 ∈ jw_ws := jw_in (by decide +kernel) (by decide +kernel)
theorem jw_in_f_V_aim : Cond.instanceMethod f_V_aim.1 ∈ jw_ws := jw_in (by decide +kernel) (by decide +kernel)
theorem jw_se_f_V_aim : Cond.selects f_V_aim.1.cls f_V_aim.1 f_V_aim.1 ∈ jw_ws := jw_in (by decide +kernel) (by decide +kernel)
theorem jw_in_f_V_countComparedParts : Cond.instanceMethod f_V_countComparedParts.1 ∈ jw_ws := jw_in (by decide +kernel) (by decide +kernel)
theorem jw_se_f_V_countComparedParts : Cond.selects f_V_countComparedParts.1.cls f_V_countComparedParts.1 f_V_countComparedParts.1 ∈ jw_ws := jw_in (by decide +kernel) (by decide +kernel)
theorem jw_in_f_V_differ : Cond.instanceMethod f_V_differ.1 ∈ jw_ws := jw_in (by decide +kernel) (by decide +kernel)
theorem jw_se_f_V_differ : Cond.selects f_V_differ.1.cls f_V_differ.1 f_V_differ.1 ∈ jw_ws := jw_in (by decide +kernel) (by decide +kernel)
theorem jw_in_f_V_exchange : Cond.instanceMethod f_V_exchange.1 ∈ jw_ws := jw_in (by decide +kernel) (by decide +kernel)
theorem jw_se_f_V_exchange : Cond.selects f_V_exchange.1.cls f_V_exchange.1 f_V_exchange.1 ∈ jw_ws := jw_in (by decide +kernel) (by decide +kernel)
theorem jw_in_f_V_handOverHints : Cond.instanceMethod f_V_handOverHints.1 ∈ jw_ws := jw_in (by decide +kernel) (by decide +kernel)
theorem jw_se_f_V_handOverHints : Cond.selects f_V_handOverHints.1.cls f_V_handOverHints.1 f_V_handOverHints.1 ∈ jw_ws := jw_in (by decide +kernel) (by decide +kernel)
theorem jw_in_f_V_handOverKey : Cond.instanceMethod f_V_handOverKey.1 ∈ jw_ws := jw_in (by decide +kernel) (by decide +kernel)
theorem jw_se_f_V_handOverKey : Cond.selects f_V_handOverKey.1.cls f_V_handOverKey.1 f_V_handOverKey.1 ∈ jw_ws := jw_in (by decide +kernel) (by decide +kernel)
theorem jw_in_f_V_isAtSomeTarget : Cond.instanceMethod f_V_isAtSomeTarget.1 ∈ jw_ws := jw_in (by decide +kernel) (by decide +kernel)
theorem jw_se_f_V_isAtSomeTarget : Cond.selects f_V_isAtSomeTarget.1.cls f_V_isAtSomeTarget.1 f_V_isAtSomeTarget.1 ∈ jw_ws := jw_in (by decide +kernel) (by decide +kernel)
theorem jw_in_f_V_isPassedBySeen : Cond.instanceMethod f_V_isPassedBySeen.1 ∈ jw_ws := jw_in (by decide +kernel) (by decide +kernel)
theorem jw_se_f_V_isPassedBySeen : Cond.selects f_V_isPassedBySeen.1.cls f_V_isPassedBySeen.1 f_V_isPassedBySeen.1 ∈ jw_ws := jw_in (by decide +kernel) (by decide +kernel)
theorem jw_in_f_V_keepLatest : Cond.instanceMethod f_V_keepLatest.1 ∈ jw_ws := jw_in (by decide +kernel) (by decide +kernel)
theorem jw_se_f_V_keepLatest : Cond.selects f_V_keepLatest.1.cls f_V_keepLatest.1 f_V_keepLatest.1 ∈ jw_ws := jw_in (by decide +kernel) (by decide +kernel)
theorem jw_in_f_V_leaveHints : Cond.instanceMethod f_V_leaveHints.1 ∈ jw_ws := jw_in (by decide +kernel) (by decide +kernel)
theorem jw_se_f_V_leaveHints : Cond.selects f_V_leaveHints.1.cls f_V_leaveHints.1 f_V_leaveHints.1 ∈ jw_ws := jw_in (by decide +kernel) (by decide +kernel)
theorem jw_in_f_V_lookAtTargets : Cond.instanceMethod f_V_lookAtTargets.1 ∈ jw_ws := jw_in (by decide +kernel) (by decide +kernel)
theorem jw_se_f_V_lookAtTargets : Cond.selects f_V_lookAtTargets.1.cls f_V_lookAtTargets.1 f_V_lookAtTargets.1 ∈ jw_ws := jw_in (by decide +kernel) (by decide +kernel)
theorem jw_in_f_V_mayKnow : Cond.instanceMethod f_V_mayKnow.1 ∈ jw_ws := jw_in (by decide +kernel) (by decide +kernel)
theorem jw_se_f_V_mayKnow : Cond.selects f_V_mayKnow.1.cls f_V_mayKnow.1 f_V_mayKnow.1 ∈ jw_ws := jw_in (by decide +kernel) (by decide +kernel)
theorem jw_in_f_V_reaches : Cond.instanceMethod f_V_reaches.1 ∈ jw_ws := jw_in (by decide +kernel) (by decide +kernel)
theorem jw_se_f_V_reaches : Cond.selects f_V_reaches.1.cls f_V_reaches.1 f_V_reaches.1 ∈ jw_ws := jw_in (by decide +kernel) (by decide +kernel)
theorem jw_in_f_V_reachesAllHomes : Cond.instanceMethod f_V_reachesAllHomes.1 ∈ jw_ws := jw_in (by decide +kernel) (by decide +kernel)
theorem jw_se_f_V_reachesAllHomes : Cond.selects f_V_reachesAllHomes.1.cls f_V_reachesAllHomes.1 f_V_reachesAllHomes.1 ∈ jw_ws := jw_in (by decide +kernel) (by decide +kernel)
theorem jw_in_f_V_sendToHomes : Cond.instanceMethod f_V_sendToHomes.1 ∈ jw_ws := jw_in (by decide +kernel) (by decide +kernel)
theorem jw_se_f_V_sendToHomes : Cond.selects f_V_sendToHomes.1.cls f_V_sendToHomes.1 f_V_sendToHomes.1 ∈ jw_ws := jw_in (by decide +kernel) (by decide +kernel)
theorem jw_in_f_V_share : Cond.instanceMethod f_V_share.1 ∈ jw_ws := jw_in (by decide +kernel) (by decide +kernel)
theorem jw_se_f_V_share : Cond.selects f_V_share.1.cls f_V_share.1 f_V_share.1 ∈ jw_ws := jw_in (by decide +kernel) (by decide +kernel)
theorem jw_st_f_J_fill : Cond.static f_J_fill.1 ∈ jw_ws := jw_in (by decide +kernel) (by decide +kernel)
theorem jw_st_f_M_isKey : Cond.static f_M_isKey.1 ∈ jw_ws := jw_in (by decide +kernel) (by decide +kernel)
theorem jw_st_f_M_isNode : Cond.static f_M_isNode.1 ∈ jw_ws := jw_in (by decide +kernel) (by decide +kernel)
theorem jw_st_f_V_areTwoNodes : Cond.static f_V_areTwoNodes.1 ∈ jw_ws := jw_in (by decide +kernel) (by decide +kernel)
theorem jw_st_f_V_isContext : Cond.static f_V_isContext.1 ∈ jw_ws := jw_in (by decide +kernel) (by decide +kernel)
theorem jw_st_f_V_isKey : Cond.static f_V_isKey.1 ∈ jw_ws := jw_in (by decide +kernel) (by decide +kernel)
theorem jw_st_f_V_isNode : Cond.static f_V_isNode.1 ∈ jw_ws := jw_in (by decide +kernel) (by decide +kernel)
theorem jw_st_f_V_isPosition : Cond.static f_V_isPosition.1 ∈ jw_ws := jw_in (by decide +kernel) (by decide +kernel)
theorem jw_st_f_V_line : Cond.static f_V_line.1 ∈ jw_ws := jw_in (by decide +kernel) (by decide +kernel)
theorem jw_w_min2 : Cond.static Lib.Math.min.name ∈ jw_ws := jw_in (by decide +kernel) (by decide +kernel)
theorem jw_w_min3 : Cond.initialized "java/lang/Math" ∈ jw_ws := jw_in (by decide +kernel) (by decide +kernel)
set_option maxRecDepth 100000 in
theorem jw_w_min4 : Cond.code Lib.Math.min.name Lib.Math.min.code 2 (some .int) ∈ jw_ws := jw_in (List.mem_append_right _ (List.mem_of_getElem? (i := 20) rfl)) rfl
theorem jw_w_max2 : Cond.static Lib.Math.max.name ∈ jw_ws := jw_in (by decide +kernel) (by decide +kernel)
theorem jw_w_max3 : Cond.initialized "java/lang/Math" ∈ jw_ws := jw_w_min3
set_option maxRecDepth 100000 in
theorem jw_w_max4 : Cond.code Lib.Math.max.name Lib.Math.max.code 2 (some .int) ∈ jw_ws := jw_in (List.mem_append_right _ (List.mem_of_getElem? (i := 200) rfl)) rfl
theorem jw_w_cp2 : Cond.native arraycopyName ∈ jw_ws := jw_in (by decide +kernel) (by decide +kernel)
theorem jw_w_cp3 : Cond.static arraycopyName ∈ jw_ws := jw_in (by decide +kernel) (by decide +kernel)
theorem jw_w_cp4 : Cond.initialized "java/lang/System" ∈ jw_ws := jw_in (by decide +kernel) (by decide +kernel)
theorem jw_ks : Cond.fieldLink R_V 114 "VersionRing" "NOTHING_KNOWN" "[I" ∈ jw_ws := jw_in (by decide +kernel) (by decide +kernel)
end
section
set_option maxRecDepth 100000 in
set_option maxHeartbeats 4000000 in
theorem k_R_lookUp_0 {l : Launch} {X : jw_X0} {G : jw_G} {A : Nat → Prop} {x1 : Int32} {M : jw_Mem} (h : jw_X l X (jw_g G) A f_R_lookUp 13 [some (jw_a G 1), some (.int x1), some (.int ((5 * x1) + 3)), some (.int 0), none] [] (jw_U M 1 3 0)) : jw_X l X (jw_g G) A f_R_lookUp 0 [some (jw_a G 1), some (.int x1), none, none, none] [] M := by
  refine jw_iconst (v := 5) d_R_lookUp_0 jc_i_5 ?_
  refine jw_iload_n (i := 1) d_R_lookUp_1 rfl rfl ?_
  refine jw_imul d_R_lookUp_2 ?_
  refine jw_iconst (v := 3) d_R_lookUp_3 jc_i_3 ?_
  refine jw_iadd d_R_lookUp_4 ?_
  refine jw_istore_n (i := 2) d_R_lookUp_5 rfl (Nat.le_of_ble_eq_true rfl) ?_
  refine jw_aload_n (i := 0) d_R_lookUp_6 rfl rfl ?_
  refine jw_iconst (v := 0) d_R_lookUp_7 jc_i_0 ?_
  refine jw_put (j := 3) d_R_lookUp_8 jw_k1 jw_c_R jw_oc_R (Nat.le_of_ble_eq_true rfl) jw_fl_R_28 rfl rfl rfl rfl ?_
  refine jw_iconst (v := 0) d_R_lookUp_11 jc_i_0 ?_
  refine jw_istore_n (i := 3) d_R_lookUp_12 rfl (Nat.le_of_ble_eq_true rfl) ?_
  exact h
set_option maxRecDepth 100000 in
set_option maxHeartbeats 4000000 in
theorem k_R_lookUp_13 {l : Launch} {X : jw_X0} {G : jw_G} {A : Nat → Prop} {x1 x2 x3 : Int32} {M : jw_Mem} (h : ((16 ≤ x3 → jw_R l X (jw_g G) A f_R_lookUp 0 (jw_U M 1 4 (if (M 1 3) < (M 1 0) then (M 1 3) else (M 1 0)))) ∧ (¬ 16 ≤ x3 → (∃ j1 : Nat, (j1 < 16 ∧ ((x2 + x3) - (x2 + x3) / 16 * 16) = nI j1) ∧ (((M 2 j1) = (-1) → jw_X l X (jw_g G) A f_R_lookUp 13 [some (jw_a G 1), some (.int x1), some (.int x2), some (.int (x3 + 1)), none] [] M) ∧ (¬ (M 2 j1) = (-1) → jw_M l (jw_g G) A f_R_isAmongFirst [jw_a G 1, .int (M 1 3), .int (M 2 j1)] M (fun r1 M1 => ((¬ r1 = 0 → jw_X l X (jw_g G) A f_R_lookUp 13 [some (jw_a G 1), some (.int x1), some (.int x2), some (.int (x3 + 1)), none] [] M1) ∧ (r1 = 0 → (∃ j2 : Nat, (j2 < 5 ∧ (M1 1 3) = nI j2) ∧ jw_X l X (jw_g G) A f_R_lookUp 13 [some (jw_a G 1), some (.int x1), some (.int x2), some (.int (x3 + 1)), none] [] (jw_U (jw_U M1 3 j2 (M 2 j1)) 1 3 (((jw_U M1 3 j2 (M 2 j1)) 1 3) + 1)))))))))))) : jw_X l X (jw_g G) A f_R_lookUp 13 [some (jw_a G 1), some (.int x1), some (.int x2), some (.int x3), none] [] M := by
  refine jw_iload_n (i := 3) d_R_lookUp_13 rfl rfl ?_
  refine jw_bipush (v := 16) d_R_lookUp_14 jc_b_16 ?_
  refine jw_icmp_ge (tgt := 78) d_R_lookUp_16 (by decide) (fun hc => ?_) (fun hc => ?_)
  · have h := h.1 hc
    refine jw_aload_n (i := 0) d_R_lookUp_78 rfl rfl ?_
    refine jw_aload_n (i := 0) d_R_lookUp_79 rfl rfl ?_
    refine jw_get (j := 0) (v := .int (M 1 0)) d_R_lookUp_80 jw_k1 jw_c_R jw_oc_R (Nat.le_of_ble_eq_true rfl) jw_fl_R_9 rfl rfl ?_
    refine jw_aload_n (i := 0) d_R_lookUp_83 rfl rfl ?_
    refine jw_get (j := 3) (v := .int (M 1 3)) d_R_lookUp_84 jw_k1 jw_c_R jw_oc_R (Nat.le_of_ble_eq_true rfl) jw_fl_R_28 rfl rfl ?_
    refine jw_mmin d_R_lookUp_87 jw_ml_R_35 jw_w_min2 jw_w_min3 jw_w_min4 ⟨Nat.le_of_ble_eq_true rfl, Nat.le_of_ble_eq_true rfl⟩ (Nat.le_of_ble_eq_true rfl) ?_
    refine jw_put (j := 4) d_R_lookUp_90 jw_k1 jw_c_R jw_oc_R (Nat.le_of_ble_eq_true rfl) jw_fl_R_41 rfl rfl rfl rfl ?_
    exact jw_return d_R_lookUp_93 rfl h
  · have h := h.2 hc
    refine jw_aload_n (i := 0) d_R_lookUp_19 rfl rfl ?_
    refine jw_get (j := 1) (v := jw_a G 2) d_R_lookUp_20 jw_k1 jw_c_R jw_oc_R (Nat.le_of_ble_eq_true rfl) jw_fl_R_15 rfl rfl ?_
    refine jw_iload_n (i := 2) d_R_lookUp_23 rfl rfl ?_
    refine jw_iload_n (i := 3) d_R_lookUp_24 rfl rfl ?_
    refine jw_iadd d_R_lookUp_25 ?_
    refine jw_bipush (v := 16) d_R_lookUp_26 jc_b_16 ?_
    refine jw_irem d_R_lookUp_28 (by decide) ?_
    obtain ⟨j1, hj1, h⟩ := h
    refine jw_iald2 d_R_lookUp_29 jw_k2 (Nat.le_of_ble_eq_true rfl) hj1 ?_
    refine jw_istore d_R_lookUp_30 (Nat.le_of_ble_eq_true rfl) ?_
    refine jw_iload d_R_lookUp_32 rfl ?_
    refine jw_iconst (v := (-1)) d_R_lookUp_34 jc_i_m1 ?_
    refine jw_icmp_eq (tgt := 72) d_R_lookUp_35 (by decide) (fun hc => ?_) (fun hc => ?_)
    · have h := h.1 hc
      refine jw_iinc (d := 1) d_R_lookUp_72 rfl jc_i_1 (Nat.le_of_ble_eq_true rfl) ?_
      refine jw_goto (tgt := 13) d_R_lookUp_75 (by decide) ?_
      refine jw_forget 4 ?_
      exact h
    · have h := h.2 hc
      refine jw_aload_n (i := 0) d_R_lookUp_38 rfl rfl ?_
      refine jw_aload_n (i := 0) d_R_lookUp_39 rfl rfl ?_
      refine jw_get (j := 3) (v := .int (M 1 3)) d_R_lookUp_40 jw_k1 jw_c_R jw_oc_R (Nat.le_of_ble_eq_true rfl) jw_fl_R_28 rfl rfl ?_
      refine jw_iload d_R_lookUp_43 rfl ?_
      refine jw_callV (As := [.int (M 1 3), .int (M 2 j1)]) (S := []) d_R_lookUp_45 jw_k1 jw_c_R jw_ml_R_31 jw_in_f_R_isAmongFirst jw_se_f_R_isAmongFirst ⟨Nat.le_of_ble_eq_true rfl, Nat.le_of_ble_eq_true rfl⟩ rfl rfl (Nat.le_of_ble_eq_true rfl) (jw_M_mono h (fun r1 M1 h => ?_))
      refine jw_st (S' := [.int r1]) rfl ?_
      refine jw_if_ne (tgt := 72) d_R_lookUp_48 (by decide) (fun hc => ?_) (fun hc => ?_)
      · have h := h.1 hc
        refine jw_iinc (d := 1) d_R_lookUp_72 rfl jc_i_1 (Nat.le_of_ble_eq_true rfl) ?_
        refine jw_goto (tgt := 13) d_R_lookUp_75 (by decide) ?_
        refine jw_forget 4 ?_
        exact h
      · have h := h.2 hc
        refine jw_aload_n (i := 0) d_R_lookUp_51 rfl rfl ?_
        refine jw_get (j := 2) (v := jw_a G 3) d_R_lookUp_52 jw_k1 jw_c_R jw_oc_R (Nat.le_of_ble_eq_true rfl) jw_fl_R_25 rfl rfl ?_
        refine jw_aload_n (i := 0) d_R_lookUp_55 rfl rfl ?_
        refine jw_get (j := 3) (v := .int (M1 1 3)) d_R_lookUp_56 jw_k1 jw_c_R jw_oc_R (Nat.le_of_ble_eq_true rfl) jw_fl_R_28 rfl rfl ?_
        refine jw_iload d_R_lookUp_59 rfl ?_
        obtain ⟨j2, hj2, h⟩ := h
        refine jw_iast2 d_R_lookUp_61 jw_k3 (Nat.le_of_ble_eq_true rfl) hj2 ?_
        refine jw_aload_n (i := 0) d_R_lookUp_62 rfl rfl ?_
        refine jw_dup d_R_lookUp_63 rfl ?_
        refine jw_get (j := 3) (v := .int ((jw_U M1 3 j2 (M 2 j1)) 1 3)) d_R_lookUp_64 jw_k1 jw_c_R jw_oc_R (Nat.le_of_ble_eq_true rfl) jw_fl_R_28 rfl rfl ?_
        refine jw_iconst (v := 1) d_R_lookUp_67 jc_i_1 ?_
        refine jw_iadd d_R_lookUp_68 ?_
        refine jw_put (j := 3) d_R_lookUp_69 jw_k1 jw_c_R jw_oc_R (Nat.le_of_ble_eq_true rfl) jw_fl_R_28 rfl rfl rfl rfl ?_
        refine jw_iinc (d := 1) d_R_lookUp_72 rfl jc_i_1 (Nat.le_of_ble_eq_true rfl) ?_
        refine jw_goto (tgt := 13) d_R_lookUp_75 (by decide) ?_
        refine jw_forget 4 ?_
        exact h
set_option maxRecDepth 100000 in
theorem e_R_lookUp {l : Launch} {G : jw_G} {A : Nat → Prop} {x1 : Int32} {M : jw_Mem} {Q : Int32 → jw_Mem → Prop} (h : ∀ X : jw_X0, (∀ M', Q 0 M' → jw_R l X (jw_g G) A f_R_lookUp 0 M') → jw_X l X (jw_g G) A f_R_lookUp 13 [some (jw_a G 1), some (.int x1), some (.int ((5 * x1) + 3)), some (.int 0), none] [] (jw_U M 1 3 0)) : jw_M l (jw_g G) A f_R_lookUp [jw_a G 1, .int x1] M Q := by
  refine jw_M_of (by decide) (Nat.le_of_ble_eq_true rfl) (by intro v hv; simp at hv; rcases hv with rfl | rfl <;> rfl) (fun X hR => ?_)
  exact k_R_lookUp_0  (h X (fun M' q => hR 0 M' q (fun ty h0 => nomatch h0)))

set_option maxRecDepth 100000 in
set_option maxHeartbeats 4000000 in
theorem k_R_hasHome_0 {l : Launch} {X : jw_X0} {G : jw_G} {A : Nat → Prop} {x1 : Int32} {M : jw_Mem} (h : jw_M l (jw_g G) A f_R_isAmongFirst [jw_a G 1, .int (M 1 4), .int x1] M (fun r1 M1 => jw_R l X (jw_g G) A f_R_hasHome r1 M1)) : jw_X l X (jw_g G) A f_R_hasHome 0 [some (jw_a G 1), some (.int x1)] [] M := by
  refine jw_aload_n (i := 0) d_R_hasHome_0 rfl rfl ?_
  refine jw_aload_n (i := 0) d_R_hasHome_1 rfl rfl ?_
  refine jw_get (j := 4) (v := .int (M 1 4)) d_R_hasHome_2 jw_k1 jw_c_R jw_oc_R (Nat.le_of_ble_eq_true rfl) jw_fl_R_41 rfl rfl ?_
  refine jw_iload_n (i := 1) d_R_hasHome_5 rfl rfl ?_
  refine jw_callV (As := [.int (M 1 4), .int x1]) (S := []) d_R_hasHome_6 jw_k1 jw_c_R jw_ml_R_31 jw_in_f_R_isAmongFirst jw_se_f_R_isAmongFirst ⟨Nat.le_of_ble_eq_true rfl, Nat.le_of_ble_eq_true rfl⟩ rfl rfl (Nat.le_of_ble_eq_true rfl) (jw_M_mono h (fun r1 M1 h => ?_))
  refine jw_st (S' := [.int r1]) rfl ?_
  exact jw_ireturn d_R_hasHome_9 rfl h
set_option maxRecDepth 100000 in
theorem e_R_hasHome {l : Launch} {G : jw_G} {A : Nat → Prop} {x1 : Int32} {M : jw_Mem} {Q : Int32 → jw_Mem → Prop} (h : ∀ X : jw_X0, (∀ r M', Q r M' → (r = 0 ∨ r = 1) → jw_R l X (jw_g G) A f_R_hasHome r M') → jw_M l (jw_g G) A f_R_isAmongFirst [jw_a G 1, .int (M 1 4), .int x1] M (fun r1 M1 => jw_R l X (jw_g G) A f_R_hasHome r1 M1)) : jw_M l (jw_g G) A f_R_hasHome [jw_a G 1, .int x1] M Q := by
  refine jw_M_of (by decide) (Nat.le_of_ble_eq_true rfl) (by intro v hv; simp at hv; rcases hv with rfl | rfl <;> rfl) (fun X hR => ?_)
  exact k_R_hasHome_0  (h X (fun r M' q hb => hR r M' q (fun ty h0 => by cases h0; exact jw_nb hb)))

set_option maxRecDepth 100000 in
set_option maxHeartbeats 4000000 in
theorem k_R_isAmongFirst_0 {l : Launch} {X : jw_X0} {G : jw_G} {A : Nat → Prop} {x1 : Int32} {x2 : Int32} {M : jw_Mem} (h : jw_X l X (jw_g G) A f_R_isAmongFirst 2 [some (jw_a G 1), some (.int x1), some (.int x2), some (.int 0)] [] M) : jw_X l X (jw_g G) A f_R_isAmongFirst 0 [some (jw_a G 1), some (.int x1), some (.int x2), none] [] M := by
  refine jw_iconst (v := 0) d_R_isAmongFirst_0 jc_i_0 ?_
  refine jw_istore_n (i := 3) d_R_isAmongFirst_1 rfl (Nat.le_of_ble_eq_true rfl) ?_
  exact h
set_option maxRecDepth 100000 in
set_option maxHeartbeats 4000000 in
theorem k_R_isAmongFirst_2 {l : Launch} {X : jw_X0} {G : jw_G} {A : Nat → Prop} {x1 x2 x3 : Int32} {M : jw_Mem} (h : ((x1 ≤ x3 → jw_R l X (jw_g G) A f_R_isAmongFirst 0 M) ∧ (¬ x1 ≤ x3 → (∃ j1 : Nat, (j1 < 5 ∧ x3 = nI j1) ∧ ((¬ (M 3 j1) = x2 → jw_X l X (jw_g G) A f_R_isAmongFirst 2 [some (jw_a G 1), some (.int x1), some (.int x2), some (.int (x3 + 1))] [] M) ∧ ((M 3 j1) = x2 → jw_R l X (jw_g G) A f_R_isAmongFirst 1 M)))))) : jw_X l X (jw_g G) A f_R_isAmongFirst 2 [some (jw_a G 1), some (.int x1), some (.int x2), some (.int x3)] [] M := by
  refine jw_iload_n (i := 3) d_R_isAmongFirst_2 rfl rfl ?_
  refine jw_iload_n (i := 1) d_R_isAmongFirst_3 rfl rfl ?_
  refine jw_icmp_ge (tgt := 25) d_R_isAmongFirst_4 (by decide) (fun hc => ?_) (fun hc => ?_)
  · have h := h.1 hc
    refine jw_iconst (v := 0) d_R_isAmongFirst_25 jc_i_0 ?_
    exact jw_ireturn d_R_isAmongFirst_26 rfl h
  · have h := h.2 hc
    refine jw_aload_n (i := 0) d_R_isAmongFirst_7 rfl rfl ?_
    refine jw_get (j := 2) (v := jw_a G 3) d_R_isAmongFirst_8 jw_k1 jw_c_R jw_oc_R (Nat.le_of_ble_eq_true rfl) jw_fl_R_25 rfl rfl ?_
    refine jw_iload_n (i := 3) d_R_isAmongFirst_11 rfl rfl ?_
    obtain ⟨j1, hj1, h⟩ := h
    refine jw_iald2 d_R_isAmongFirst_12 jw_k3 (Nat.le_of_ble_eq_true rfl) hj1 ?_
    refine jw_iload_n (i := 2) d_R_isAmongFirst_13 rfl rfl ?_
    refine jw_icmp_ne (tgt := 19) d_R_isAmongFirst_14 (by decide) (fun hc => ?_) (fun hc => ?_)
    · have h := h.1 hc
      refine jw_iinc (d := 1) d_R_isAmongFirst_19 rfl jc_i_1 (Nat.le_of_ble_eq_true rfl) ?_
      refine jw_goto (tgt := 2) d_R_isAmongFirst_22 (by decide) ?_
      exact h
    · have h := h.2 hc
      refine jw_iconst (v := 1) d_R_isAmongFirst_17 jc_i_1 ?_
      exact jw_ireturn d_R_isAmongFirst_18 rfl h
set_option maxRecDepth 100000 in
theorem e_R_isAmongFirst {l : Launch} {G : jw_G} {A : Nat → Prop} {x1 : Int32} {x2 : Int32} {M : jw_Mem} {Q : Int32 → jw_Mem → Prop} (h : ∀ X : jw_X0, (∀ r M', Q r M' → (r = 0 ∨ r = 1) → jw_R l X (jw_g G) A f_R_isAmongFirst r M') → jw_X l X (jw_g G) A f_R_isAmongFirst 2 [some (jw_a G 1), some (.int x1), some (.int x2), some (.int 0)] [] M) : jw_M l (jw_g G) A f_R_isAmongFirst [jw_a G 1, .int x1, .int x2] M Q := by
  refine jw_M_of (by decide) (Nat.le_of_ble_eq_true rfl) (by intro v hv; simp at hv; rcases hv with rfl | rfl | rfl <;> rfl) (fun X hR => ?_)
  exact k_R_isAmongFirst_0  (h X (fun r M' q hb => hR r M' q (fun ty h0 => by cases h0; exact jw_nb hb)))
end
section
set_option maxRecDepth 100000 in
set_option maxHeartbeats 4000000 in
theorem k_G_isMade_0 {l : Launch} {X : jw_X0} {G : jw_G} {A : Nat → Prop} {x1 : Int32} {M : jw_Mem} (h : ((x1 < 0 → jw_R l X (jw_g G) A f_G_isMade 0 M) ∧ (¬ x1 < 0 → (((M 4 4) ≤ x1 → jw_R l X (jw_g G) A f_G_isMade 0 M) ∧ (¬ (M 4 4) ≤ x1 → jw_R l X (jw_g G) A f_G_isMade 1 M))))) : jw_X l X (jw_g G) A f_G_isMade 0 [some (jw_a G 4), some (.int x1)] [] M := by
  refine jw_iload_n (i := 1) d_G_isMade_0 rfl rfl ?_
  refine jw_if_lt (tgt := 16) d_G_isMade_1 (by decide) (fun hc => ?_) (fun hc => ?_)
  · have h := h.1 hc
    refine jw_iconst (v := 0) d_G_isMade_16 jc_i_0 ?_
    exact jw_ireturn d_G_isMade_17 rfl h
  · have h := h.2 hc
    refine jw_iload_n (i := 1) d_G_isMade_4 rfl rfl ?_
    refine jw_aload_n (i := 0) d_G_isMade_5 rfl rfl ?_
    refine jw_get (j := 4) (v := .int (M 4 4)) d_G_isMade_6 jw_k4 jw_c_G jw_oc_G (Nat.le_of_ble_eq_true rfl) jw_fl_G_24 rfl rfl ?_
    refine jw_icmp_ge (tgt := 16) d_G_isMade_9 (by decide) (fun hc => ?_) (fun hc => ?_)
    · have h := h.1 hc
      refine jw_iconst (v := 0) d_G_isMade_16 jc_i_0 ?_
      exact jw_ireturn d_G_isMade_17 rfl h
    · have h := h.2 hc
      refine jw_iconst (v := 1) d_G_isMade_12 jc_i_1 ?_
      refine jw_goto (tgt := 17) d_G_isMade_13 (by decide) ?_
      exact jw_ireturn d_G_isMade_17 rfl h
set_option maxRecDepth 100000 in
theorem e_G_isMade {l : Launch} {G : jw_G} {A : Nat → Prop} {x1 : Int32} {M : jw_Mem} {Q : Int32 → jw_Mem → Prop} (h : ∀ X : jw_X0, (∀ r M', Q r M' → (r = 0 ∨ r = 1) → jw_R l X (jw_g G) A f_G_isMade r M') → ((x1 < 0 → jw_R l X (jw_g G) A f_G_isMade 0 M) ∧ (¬ x1 < 0 → (((M 4 4) ≤ x1 → jw_R l X (jw_g G) A f_G_isMade 0 M) ∧ (¬ (M 4 4) ≤ x1 → jw_R l X (jw_g G) A f_G_isMade 1 M))))) : jw_M l (jw_g G) A f_G_isMade [jw_a G 4, .int x1] M Q := by
  refine jw_M_of (by decide) (Nat.le_of_ble_eq_true rfl) (by intro v hv; simp at hv; rcases hv with rfl | rfl <;> rfl) (fun X hR => ?_)
  exact k_G_isMade_0  (h X (fun r M' q hb => hR r M' q (fun ty h0 => by cases h0; exact jw_nb hb)))

set_option maxRecDepth 100000 in
set_option maxHeartbeats 4000000 in
theorem k_G_clockCount_0 {l : Launch} {X : jw_X0} {G : jw_G} {A : Nat → Prop} {x1 : Int32} {x2 : Int32} {M : jw_Mem} (h : (∃ j1 : Nat, (j1 < 200 ∧ ((x1 * 5) + x2) = nI j1) ∧ jw_R l X (jw_g G) A f_G_clockCount (M 8 j1) M)) : jw_X l X (jw_g G) A f_G_clockCount 0 [some (jw_a G 4), some (.int x1), some (.int x2)] [] M := by
  refine jw_aload_n (i := 0) d_G_clockCount_0 rfl rfl ?_
  refine jw_get (j := 3) (v := jw_a G 8) d_G_clockCount_1 jw_k4 jw_c_G jw_oc_G (Nat.le_of_ble_eq_true rfl) jw_fl_G_21 rfl rfl ?_
  refine jw_iload_n (i := 1) d_G_clockCount_4 rfl rfl ?_
  refine jw_iconst (v := 5) d_G_clockCount_5 jc_i_5 ?_
  refine jw_imul d_G_clockCount_6 ?_
  refine jw_iload_n (i := 2) d_G_clockCount_7 rfl rfl ?_
  refine jw_iadd d_G_clockCount_8 ?_
  obtain ⟨j1, hj1, h⟩ := h
  refine jw_iald2 d_G_clockCount_9 jw_k8 (Nat.le_of_ble_eq_true rfl) hj1 ?_
  exact jw_ireturn d_G_clockCount_10 rfl h
set_option maxRecDepth 100000 in
theorem e_G_clockCount {l : Launch} {G : jw_G} {A : Nat → Prop} {x1 : Int32} {x2 : Int32} {M : jw_Mem} {Q : Int32 → jw_Mem → Prop} (h : ∀ X : jw_X0, (∀ r M', Q r M' → jw_R l X (jw_g G) A f_G_clockCount r M') → (∃ j1 : Nat, (j1 < 200 ∧ ((x1 * 5) + x2) = nI j1) ∧ jw_R l X (jw_g G) A f_G_clockCount (M 8 j1) M)) : jw_M l (jw_g G) A f_G_clockCount [jw_a G 4, .int x1, .int x2] M Q := by
  refine jw_M_of (by decide) (Nat.le_of_ble_eq_true rfl) (by intro v hv; simp at hv; rcases hv with rfl | rfl | rfl <;> rfl) (fun X hR => ?_)
  exact k_G_clockCount_0  (h X (fun r M' q => hR r M' q (fun ty h0 => by cases h0; rfl)))

set_option maxRecDepth 100000 in
set_option maxHeartbeats 4000000 in
theorem k_G_add_0 {l : Launch} {X : jw_X0} {G : jw_G} {A : Nat → Prop} {x1 : Int32} {x2 : Int32} {x3 : Int32} {q : Nat} (hq : jw_KT[q]? = some (1, 5, [])) {M : jw_Mem} (h : (∃ j1 : Nat, (j1 + 5 ≤ 200 ∧ ((M 4 4) * 5) = nI j1) ∧ jw_M l (jw_g G) A f_G_numberWritten [jw_a G 4, .int x3, .int x1] (jw_UA M 8 (va_cpy (M q) (M 8) 0 j1 5)) (fun r1 M1 => (∃ j2 : Nat, (j2 < 200 ∧ (((M 4 4) * 5) + x3) = nI j2) ∧ (∃ j3 : Nat, (j3 < 40 ∧ (M 4 4) = nI j3) ∧ (∃ j4 : Nat, (j4 < 40 ∧ (M 4 4) = nI j4) ∧ (∃ j5 : Nat, (j5 < 40 ∧ (M 4 4) = nI j5) ∧ jw_R l X (jw_g G) A f_G_add (M 4 4) (jw_U (jw_U (jw_U (jw_U (jw_U M1 8 j2 (1 + r1)) 5 j3 x1) 6 j4 x2) 7 j5 x3) 4 4 (((jw_U (jw_U (jw_U (jw_U M1 8 j2 (1 + r1)) 5 j3 x1) 6 j4 x2) 7 j5 x3) 4 4) + 1))))))))) : jw_X l X (jw_g G) A f_G_add 0 [some (jw_a G 4), some (.int x1), some (.int x2), some (.int x3), some (jw_a G q), none] [] M := by
  refine jw_aload_n (i := 0) d_G_add_0 rfl rfl ?_
  refine jw_get (j := 4) (v := .int (M 4 4)) d_G_add_1 jw_k4 jw_c_G jw_oc_G (Nat.le_of_ble_eq_true rfl) jw_fl_G_24 rfl rfl ?_
  refine jw_istore d_G_add_4 (Nat.le_of_ble_eq_true rfl) ?_
  refine jw_aload d_G_add_6 rfl ?_
  refine jw_iconst (v := 0) d_G_add_8 jc_i_0 ?_
  refine jw_aload_n (i := 0) d_G_add_9 rfl rfl ?_
  refine jw_get (j := 3) (v := jw_a G 8) d_G_add_10 jw_k4 jw_c_G jw_oc_G (Nat.le_of_ble_eq_true rfl) jw_fl_G_21 rfl rfl ?_
  refine jw_iload d_G_add_13 rfl ?_
  refine jw_iconst (v := 5) d_G_add_15 jc_i_5 ?_
  refine jw_imul d_G_add_16 ?_
  refine jw_iconst (v := 5) d_G_add_17 jc_i_5 ?_
  obtain ⟨j1, hj1, h⟩ := h
  refine jw_copy2 d_G_add_18 jw_ml_G_28 jw_w_cp2 jw_w_cp3 jw_w_cp4 hq jw_k8 (Nat.le_of_ble_eq_true rfl) hj1 ⟨Nat.le_of_ble_eq_true rfl, Nat.le_of_ble_eq_true rfl⟩ (Nat.le_of_ble_eq_true rfl) ?_
  refine jw_aload_n (i := 0) d_G_add_21 rfl rfl ?_
  refine jw_get (j := 3) (v := jw_a G 8) d_G_add_22 jw_k4 jw_c_G jw_oc_G (Nat.le_of_ble_eq_true rfl) jw_fl_G_21 rfl rfl ?_
  refine jw_iload d_G_add_25 rfl ?_
  refine jw_iconst (v := 5) d_G_add_27 jc_i_5 ?_
  refine jw_imul d_G_add_28 ?_
  refine jw_iload_n (i := 3) d_G_add_29 rfl rfl ?_
  refine jw_iadd d_G_add_30 ?_
  refine jw_iconst (v := 1) d_G_add_31 jc_i_1 ?_
  refine jw_aload_n (i := 0) d_G_add_32 rfl rfl ?_
  refine jw_iload_n (i := 3) d_G_add_33 rfl rfl ?_
  refine jw_iload_n (i := 1) d_G_add_34 rfl rfl ?_
  refine jw_callV (As := [.int x3, .int x1]) (S := [.int 1, .int (((M 4 4) * 5) + x3), jw_a G 8]) d_G_add_35 jw_k4 jw_c_G jw_ml_G_34 jw_in_f_G_numberWritten jw_se_f_G_numberWritten ⟨Nat.le_of_ble_eq_true rfl, Nat.le_of_ble_eq_true rfl⟩ rfl rfl (Nat.le_of_ble_eq_true rfl) (jw_M_mono h (fun r1 M1 h => ?_))
  refine jw_st (S' := [.int r1, .int 1, .int (((M 4 4) * 5) + x3), jw_a G 8]) rfl ?_
  refine jw_iadd d_G_add_38 ?_
  obtain ⟨j2, hj2, h⟩ := h
  refine jw_iast2 d_G_add_39 jw_k8 (Nat.le_of_ble_eq_true rfl) hj2 ?_
  refine jw_aload_n (i := 0) d_G_add_40 rfl rfl ?_
  refine jw_get (j := 0) (v := jw_a G 5) d_G_add_41 jw_k4 jw_c_G jw_oc_G (Nat.le_of_ble_eq_true rfl) jw_fl_G_9 rfl rfl ?_
  refine jw_iload d_G_add_44 rfl ?_
  refine jw_iload_n (i := 1) d_G_add_46 rfl rfl ?_
  obtain ⟨j3, hj3, h⟩ := h
  refine jw_iast2 d_G_add_47 jw_k5 (Nat.le_of_ble_eq_true rfl) hj3 ?_
  refine jw_aload_n (i := 0) d_G_add_48 rfl rfl ?_
  refine jw_get (j := 1) (v := jw_a G 6) d_G_add_49 jw_k4 jw_c_G jw_oc_G (Nat.le_of_ble_eq_true rfl) jw_fl_G_15 rfl rfl ?_
  refine jw_iload d_G_add_52 rfl ?_
  refine jw_iload_n (i := 2) d_G_add_54 rfl rfl ?_
  obtain ⟨j4, hj4, h⟩ := h
  refine jw_iast2 d_G_add_55 jw_k6 (Nat.le_of_ble_eq_true rfl) hj4 ?_
  refine jw_aload_n (i := 0) d_G_add_56 rfl rfl ?_
  refine jw_get (j := 2) (v := jw_a G 7) d_G_add_57 jw_k4 jw_c_G jw_oc_G (Nat.le_of_ble_eq_true rfl) jw_fl_G_18 rfl rfl ?_
  refine jw_iload d_G_add_60 rfl ?_
  refine jw_iload_n (i := 3) d_G_add_62 rfl rfl ?_
  obtain ⟨j5, hj5, h⟩ := h
  refine jw_iast2 d_G_add_63 jw_k7 (Nat.le_of_ble_eq_true rfl) hj5 ?_
  refine jw_aload_n (i := 0) d_G_add_64 rfl rfl ?_
  refine jw_dup d_G_add_65 rfl ?_
  refine jw_get (j := 4) (v := .int ((jw_U (jw_U (jw_U (jw_U M1 8 j2 (1 + r1)) 5 j3 x1) 6 j4 x2) 7 j5 x3) 4 4)) d_G_add_66 jw_k4 jw_c_G jw_oc_G (Nat.le_of_ble_eq_true rfl) jw_fl_G_24 rfl rfl ?_
  refine jw_iconst (v := 1) d_G_add_69 jc_i_1 ?_
  refine jw_iadd d_G_add_70 ?_
  refine jw_put (j := 4) d_G_add_71 jw_k4 jw_c_G jw_oc_G (Nat.le_of_ble_eq_true rfl) jw_fl_G_24 rfl rfl rfl rfl ?_
  refine jw_iload d_G_add_74 rfl ?_
  exact jw_ireturn d_G_add_76 rfl h
set_option maxRecDepth 100000 in
theorem e_G_add {l : Launch} {G : jw_G} {A : Nat → Prop} {x1 : Int32} {x2 : Int32} {x3 : Int32} {q : Nat} (hq : jw_KT[q]? = some (1, 5, [])) {M : jw_Mem} {Q : Int32 → jw_Mem → Prop} (h : ∀ X : jw_X0, (∀ r M', Q r M' → jw_R l X (jw_g G) A f_G_add r M') → (∃ j1 : Nat, (j1 + 5 ≤ 200 ∧ ((M 4 4) * 5) = nI j1) ∧ jw_M l (jw_g G) A f_G_numberWritten [jw_a G 4, .int x3, .int x1] (jw_UA M 8 (va_cpy (M q) (M 8) 0 j1 5)) (fun r1 M1 => (∃ j2 : Nat, (j2 < 200 ∧ (((M 4 4) * 5) + x3) = nI j2) ∧ (∃ j3 : Nat, (j3 < 40 ∧ (M 4 4) = nI j3) ∧ (∃ j4 : Nat, (j4 < 40 ∧ (M 4 4) = nI j4) ∧ (∃ j5 : Nat, (j5 < 40 ∧ (M 4 4) = nI j5) ∧ jw_R l X (jw_g G) A f_G_add (M 4 4) (jw_U (jw_U (jw_U (jw_U (jw_U M1 8 j2 (1 + r1)) 5 j3 x1) 6 j4 x2) 7 j5 x3) 4 4 (((jw_U (jw_U (jw_U (jw_U M1 8 j2 (1 + r1)) 5 j3 x1) 6 j4 x2) 7 j5 x3) 4 4) + 1))))))))) : jw_M l (jw_g G) A f_G_add [jw_a G 4, .int x1, .int x2, .int x3, jw_a G q] M Q := by
  refine jw_M_of (by decide) (Nat.le_of_ble_eq_true rfl) (by intro v hv; simp at hv; rcases hv with rfl | rfl | rfl | rfl | rfl <;> rfl) (fun X hR => ?_)
  exact k_G_add_0 hq (h X (fun r M' q => hR r M' q (fun ty h0 => by cases h0; rfl)))
set_option maxRecDepth 100000 in
set_option maxHeartbeats 4000000 in
theorem k_G_adds_0 {l : Launch} {X : jw_X0} {G : jw_G} {A : Nat → Prop} {x1 : Int32} {x2 : Int32} {x3 : Int32} {M : jw_Mem} (h : (∃ j1 : Nat, (j1 + 5 ≤ 200 ∧ ((M 4 4) * 5) = nI j1) ∧ jw_M l (jw_g G) A f_G_numberWritten [jw_a G 4, .int x3, .int x1] (jw_UA M 8 (va_cpy (fun _ => 0) (M 8) 0 j1 5)) (fun r1 M1 => (∃ j2 : Nat, (j2 < 200 ∧ (((M 4 4) * 5) + x3) = nI j2) ∧ (∃ j3 : Nat, (j3 < 40 ∧ (M 4 4) = nI j3) ∧ (∃ j4 : Nat, (j4 < 40 ∧ (M 4 4) = nI j4) ∧ (∃ j5 : Nat, (j5 < 40 ∧ (M 4 4) = nI j5) ∧ jw_R l X (jw_g G) A f_G_add (M 4 4) (jw_U (jw_U (jw_U (jw_U (jw_U M1 8 j2 (1 + r1)) 5 j3 x1) 6 j4 x2) 7 j5 x3) 4 4 (((jw_U (jw_U (jw_U (jw_U M1 8 j2 (1 + r1)) 5 j3 x1) 6 j4 x2) 7 j5 x3) 4 4) + 1))))))))) : jw_X l X (jw_g G) A f_G_add 0 [some (jw_a G 4), some (.int x1), some (.int x2), some (.int x3), some (.ref G.2.2.2), none] [] M := by
  refine jw_aload_n (i := 0) d_G_add_0 rfl rfl ?_
  refine jw_get (j := 4) (v := .int (M 4 4)) d_G_add_1 jw_k4 jw_c_G jw_oc_G (Nat.le_of_ble_eq_true rfl) jw_fl_G_24 rfl rfl ?_
  refine jw_istore d_G_add_4 (Nat.le_of_ble_eq_true rfl) ?_
  refine jw_aload d_G_add_6 rfl ?_
  refine jw_iconst (v := 0) d_G_add_8 jc_i_0 ?_
  refine jw_aload_n (i := 0) d_G_add_9 rfl rfl ?_
  refine jw_get (j := 3) (v := jw_a G 8) d_G_add_10 jw_k4 jw_c_G jw_oc_G (Nat.le_of_ble_eq_true rfl) jw_fl_G_21 rfl rfl ?_
  refine jw_iload d_G_add_13 rfl ?_
  refine jw_iconst (v := 5) d_G_add_15 jc_i_5 ?_
  refine jw_imul d_G_add_16 ?_
  refine jw_iconst (v := 5) d_G_add_17 jc_i_5 ?_
  obtain ⟨j1, hj1, h⟩ := h
  refine jw_copyZ2 d_G_add_18 jw_ml_G_28 jw_w_cp2 jw_w_cp3 jw_w_cp4 rfl jw_k8 (Nat.le_of_ble_eq_true rfl) hj1 ⟨Nat.le_of_ble_eq_true rfl, Nat.le_of_ble_eq_true rfl⟩ (Nat.le_of_ble_eq_true rfl) ?_
  refine jw_aload_n (i := 0) d_G_add_21 rfl rfl ?_
  refine jw_get (j := 3) (v := jw_a G 8) d_G_add_22 jw_k4 jw_c_G jw_oc_G (Nat.le_of_ble_eq_true rfl) jw_fl_G_21 rfl rfl ?_
  refine jw_iload d_G_add_25 rfl ?_
  refine jw_iconst (v := 5) d_G_add_27 jc_i_5 ?_
  refine jw_imul d_G_add_28 ?_
  refine jw_iload_n (i := 3) d_G_add_29 rfl rfl ?_
  refine jw_iadd d_G_add_30 ?_
  refine jw_iconst (v := 1) d_G_add_31 jc_i_1 ?_
  refine jw_aload_n (i := 0) d_G_add_32 rfl rfl ?_
  refine jw_iload_n (i := 3) d_G_add_33 rfl rfl ?_
  refine jw_iload_n (i := 1) d_G_add_34 rfl rfl ?_
  refine jw_callV (As := [.int x3, .int x1]) (S := [.int 1, .int (((M 4 4) * 5) + x3), jw_a G 8]) d_G_add_35 jw_k4 jw_c_G jw_ml_G_34 jw_in_f_G_numberWritten jw_se_f_G_numberWritten ⟨Nat.le_of_ble_eq_true rfl, Nat.le_of_ble_eq_true rfl⟩ rfl rfl (Nat.le_of_ble_eq_true rfl) (jw_M_mono h (fun r1 M1 h => ?_))
  refine jw_st (S' := [.int r1, .int 1, .int (((M 4 4) * 5) + x3), jw_a G 8]) rfl ?_
  refine jw_iadd d_G_add_38 ?_
  obtain ⟨j2, hj2, h⟩ := h
  refine jw_iast2 d_G_add_39 jw_k8 (Nat.le_of_ble_eq_true rfl) hj2 ?_
  refine jw_aload_n (i := 0) d_G_add_40 rfl rfl ?_
  refine jw_get (j := 0) (v := jw_a G 5) d_G_add_41 jw_k4 jw_c_G jw_oc_G (Nat.le_of_ble_eq_true rfl) jw_fl_G_9 rfl rfl ?_
  refine jw_iload d_G_add_44 rfl ?_
  refine jw_iload_n (i := 1) d_G_add_46 rfl rfl ?_
  obtain ⟨j3, hj3, h⟩ := h
  refine jw_iast2 d_G_add_47 jw_k5 (Nat.le_of_ble_eq_true rfl) hj3 ?_
  refine jw_aload_n (i := 0) d_G_add_48 rfl rfl ?_
  refine jw_get (j := 1) (v := jw_a G 6) d_G_add_49 jw_k4 jw_c_G jw_oc_G (Nat.le_of_ble_eq_true rfl) jw_fl_G_15 rfl rfl ?_
  refine jw_iload d_G_add_52 rfl ?_
  refine jw_iload_n (i := 2) d_G_add_54 rfl rfl ?_
  obtain ⟨j4, hj4, h⟩ := h
  refine jw_iast2 d_G_add_55 jw_k6 (Nat.le_of_ble_eq_true rfl) hj4 ?_
  refine jw_aload_n (i := 0) d_G_add_56 rfl rfl ?_
  refine jw_get (j := 2) (v := jw_a G 7) d_G_add_57 jw_k4 jw_c_G jw_oc_G (Nat.le_of_ble_eq_true rfl) jw_fl_G_18 rfl rfl ?_
  refine jw_iload d_G_add_60 rfl ?_
  refine jw_iload_n (i := 3) d_G_add_62 rfl rfl ?_
  obtain ⟨j5, hj5, h⟩ := h
  refine jw_iast2 d_G_add_63 jw_k7 (Nat.le_of_ble_eq_true rfl) hj5 ?_
  refine jw_aload_n (i := 0) d_G_add_64 rfl rfl ?_
  refine jw_dup d_G_add_65 rfl ?_
  refine jw_get (j := 4) (v := .int ((jw_U (jw_U (jw_U (jw_U M1 8 j2 (1 + r1)) 5 j3 x1) 6 j4 x2) 7 j5 x3) 4 4)) d_G_add_66 jw_k4 jw_c_G jw_oc_G (Nat.le_of_ble_eq_true rfl) jw_fl_G_24 rfl rfl ?_
  refine jw_iconst (v := 1) d_G_add_69 jc_i_1 ?_
  refine jw_iadd d_G_add_70 ?_
  refine jw_put (j := 4) d_G_add_71 jw_k4 jw_c_G jw_oc_G (Nat.le_of_ble_eq_true rfl) jw_fl_G_24 rfl rfl rfl rfl ?_
  refine jw_iload d_G_add_74 rfl ?_
  exact jw_ireturn d_G_add_76 rfl h
set_option maxRecDepth 100000 in
theorem e_G_adds {l : Launch} {G : jw_G} {A : Nat → Prop} {x1 : Int32} {x2 : Int32} {x3 : Int32} {M : jw_Mem} {Q : Int32 → jw_Mem → Prop} (h : ∀ X : jw_X0, (∀ r M', Q r M' → jw_R l X (jw_g G) A f_G_add r M') → (∃ j1 : Nat, (j1 + 5 ≤ 200 ∧ ((M 4 4) * 5) = nI j1) ∧ jw_M l (jw_g G) A f_G_numberWritten [jw_a G 4, .int x3, .int x1] (jw_UA M 8 (va_cpy (fun _ => 0) (M 8) 0 j1 5)) (fun r1 M1 => (∃ j2 : Nat, (j2 < 200 ∧ (((M 4 4) * 5) + x3) = nI j2) ∧ (∃ j3 : Nat, (j3 < 40 ∧ (M 4 4) = nI j3) ∧ (∃ j4 : Nat, (j4 < 40 ∧ (M 4 4) = nI j4) ∧ (∃ j5 : Nat, (j5 < 40 ∧ (M 4 4) = nI j5) ∧ jw_R l X (jw_g G) A f_G_add (M 4 4) (jw_U (jw_U (jw_U (jw_U (jw_U M1 8 j2 (1 + r1)) 5 j3 x1) 6 j4 x2) 7 j5 x3) 4 4 (((jw_U (jw_U (jw_U (jw_U M1 8 j2 (1 + r1)) 5 j3 x1) 6 j4 x2) 7 j5 x3) 4 4) + 1))))))))) : jw_M l (jw_g G) A f_G_add [jw_a G 4, .int x1, .int x2, .int x3, .ref G.2.2.2] M Q := by
  refine jw_M_of (by decide) (Nat.le_of_ble_eq_true rfl) (by intro v hv; simp at hv; rcases hv with rfl | rfl | rfl | rfl | rfl <;> rfl) (fun X hR => ?_)
  exact k_G_adds_0  (h X (fun r M' q => hR r M' q (fun ty h0 => by cases h0; rfl)))

set_option maxRecDepth 100000 in
set_option maxHeartbeats 4000000 in
theorem k_G_numberWritten_0 {l : Launch} {X : jw_X0} {G : jw_G} {A : Nat → Prop} {x1 : Int32} {x2 : Int32} {M : jw_Mem} (h : jw_X l X (jw_g G) A f_G_numberWritten 5 [some (jw_a G 4), some (.int x1), some (.int x2), some (.int 0), some (.int 0)] [] M) : jw_X l X (jw_g G) A f_G_numberWritten 0 [some (jw_a G 4), some (.int x1), some (.int x2), none, none] [] M := by
  refine jw_iconst (v := 0) d_G_numberWritten_0 jc_i_0 ?_
  refine jw_istore_n (i := 3) d_G_numberWritten_1 rfl (Nat.le_of_ble_eq_true rfl) ?_
  refine jw_iconst (v := 0) d_G_numberWritten_2 jc_i_0 ?_
  refine jw_istore d_G_numberWritten_3 (Nat.le_of_ble_eq_true rfl) ?_
  exact h
set_option maxRecDepth 100000 in
set_option maxHeartbeats 4000000 in
theorem k_G_numberWritten_5 {l : Launch} {X : jw_X0} {G : jw_G} {A : Nat → Prop} {x1 x2 x3 x4 : Int32} {M : jw_Mem} (h : (((M 4 4) ≤ x4 → jw_R l X (jw_g G) A f_G_numberWritten x3 M) ∧ (¬ (M 4 4) ≤ x4 → (∃ j1 : Nat, (j1 < 40 ∧ x4 = nI j1) ∧ ((¬ (M 7 j1) = x1 → jw_X l X (jw_g G) A f_G_numberWritten 5 [some (jw_a G 4), some (.int x1), some (.int x2), some (.int x3), some (.int (x4 + 1))] [] M) ∧ ((M 7 j1) = x1 → (∃ j2 : Nat, (j2 < 40 ∧ x4 = nI j2) ∧ ((¬ (M 5 j2) = x2 → jw_X l X (jw_g G) A f_G_numberWritten 5 [some (jw_a G 4), some (.int x1), some (.int x2), some (.int x3), some (.int (x4 + 1))] [] M) ∧ ((M 5 j2) = x2 → jw_X l X (jw_g G) A f_G_numberWritten 5 [some (jw_a G 4), some (.int x1), some (.int x2), some (.int (x3 + 1)), some (.int (x4 + 1))] [] M))))))))) : jw_X l X (jw_g G) A f_G_numberWritten 5 [some (jw_a G 4), some (.int x1), some (.int x2), some (.int x3), some (.int x4)] [] M := by
  refine jw_iload d_G_numberWritten_5 rfl ?_
  refine jw_aload_n (i := 0) d_G_numberWritten_7 rfl rfl ?_
  refine jw_get (j := 4) (v := .int (M 4 4)) d_G_numberWritten_8 jw_k4 jw_c_G jw_oc_G (Nat.le_of_ble_eq_true rfl) jw_fl_G_24 rfl rfl ?_
  refine jw_icmp_ge (tgt := 45) d_G_numberWritten_11 (by decide) (fun hc => ?_) (fun hc => ?_)
  · have h := h.1 hc
    refine jw_iload_n (i := 3) d_G_numberWritten_45 rfl rfl ?_
    exact jw_ireturn d_G_numberWritten_46 rfl h
  · have h := h.2 hc
    refine jw_aload_n (i := 0) d_G_numberWritten_14 rfl rfl ?_
    refine jw_get (j := 2) (v := jw_a G 7) d_G_numberWritten_15 jw_k4 jw_c_G jw_oc_G (Nat.le_of_ble_eq_true rfl) jw_fl_G_18 rfl rfl ?_
    refine jw_iload d_G_numberWritten_18 rfl ?_
    obtain ⟨j1, hj1, h⟩ := h
    refine jw_iald2 d_G_numberWritten_20 jw_k7 (Nat.le_of_ble_eq_true rfl) hj1 ?_
    refine jw_iload_n (i := 1) d_G_numberWritten_21 rfl rfl ?_
    refine jw_icmp_ne (tgt := 39) d_G_numberWritten_22 (by decide) (fun hc => ?_) (fun hc => ?_)
    · have h := h.1 hc
      refine jw_iinc (d := 1) d_G_numberWritten_39 rfl jc_i_1 (Nat.le_of_ble_eq_true rfl) ?_
      refine jw_goto (tgt := 5) d_G_numberWritten_42 (by decide) ?_
      exact h
    · have h := h.2 hc
      refine jw_aload_n (i := 0) d_G_numberWritten_25 rfl rfl ?_
      refine jw_get (j := 0) (v := jw_a G 5) d_G_numberWritten_26 jw_k4 jw_c_G jw_oc_G (Nat.le_of_ble_eq_true rfl) jw_fl_G_9 rfl rfl ?_
      refine jw_iload d_G_numberWritten_29 rfl ?_
      obtain ⟨j2, hj2, h⟩ := h
      refine jw_iald2 d_G_numberWritten_31 jw_k5 (Nat.le_of_ble_eq_true rfl) hj2 ?_
      refine jw_iload_n (i := 2) d_G_numberWritten_32 rfl rfl ?_
      refine jw_icmp_ne (tgt := 39) d_G_numberWritten_33 (by decide) (fun hc => ?_) (fun hc => ?_)
      · have h := h.1 hc
        refine jw_iinc (d := 1) d_G_numberWritten_39 rfl jc_i_1 (Nat.le_of_ble_eq_true rfl) ?_
        refine jw_goto (tgt := 5) d_G_numberWritten_42 (by decide) ?_
        exact h
      · have h := h.2 hc
        refine jw_iinc (d := 1) d_G_numberWritten_36 rfl jc_i_1 (Nat.le_of_ble_eq_true rfl) ?_
        refine jw_iinc (d := 1) d_G_numberWritten_39 rfl jc_i_1 (Nat.le_of_ble_eq_true rfl) ?_
        refine jw_goto (tgt := 5) d_G_numberWritten_42 (by decide) ?_
        exact h
set_option maxRecDepth 100000 in
theorem e_G_numberWritten {l : Launch} {G : jw_G} {A : Nat → Prop} {x1 : Int32} {x2 : Int32} {M : jw_Mem} {Q : Int32 → jw_Mem → Prop} (h : ∀ X : jw_X0, (∀ r M', Q r M' → jw_R l X (jw_g G) A f_G_numberWritten r M') → jw_X l X (jw_g G) A f_G_numberWritten 5 [some (jw_a G 4), some (.int x1), some (.int x2), some (.int 0), some (.int 0)] [] M) : jw_M l (jw_g G) A f_G_numberWritten [jw_a G 4, .int x1, .int x2] M Q := by
  refine jw_M_of (by decide) (Nat.le_of_ble_eq_true rfl) (by intro v hv; simp at hv; rcases hv with rfl | rfl | rfl <;> rfl) (fun X hR => ?_)
  exact k_G_numberWritten_0  (h X (fun r M' q => hR r M' q (fun ty h0 => by cases h0; rfl)))

set_option maxRecDepth 100000 in
set_option maxHeartbeats 4000000 in
theorem k_G_isAtOrBelow_0 {l : Launch} {X : jw_X0} {G : jw_G} {A : Nat → Prop} {x1 : Int32} {x2 : Int32} {M : jw_Mem} (h : jw_X l X (jw_g G) A f_G_isAtOrBelow 2 [some (jw_a G 4), some (.int x1), some (.int x2), some (.int 0)] [] M) : jw_X l X (jw_g G) A f_G_isAtOrBelow 0 [some (jw_a G 4), some (.int x1), some (.int x2), none] [] M := by
  refine jw_iconst (v := 0) d_G_isAtOrBelow_0 jc_i_0 ?_
  refine jw_istore_n (i := 3) d_G_isAtOrBelow_1 rfl (Nat.le_of_ble_eq_true rfl) ?_
  exact h
set_option maxRecDepth 100000 in
set_option maxHeartbeats 4000000 in
theorem k_G_isAtOrBelow_2 {l : Launch} {X : jw_X0} {G : jw_G} {A : Nat → Prop} {x1 x2 x3 : Int32} {M : jw_Mem} (h : ((5 ≤ x3 → jw_R l X (jw_g G) A f_G_isAtOrBelow 1 M) ∧ (¬ 5 ≤ x3 → jw_M l (jw_g G) A f_G_clockCount [jw_a G 4, .int x1, .int x3] M (fun r1 M1 => jw_M l (jw_g G) A f_G_clockCount [jw_a G 4, .int x2, .int x3] M1 (fun r2 M2 => ((r1 ≤ r2 → jw_X l X (jw_g G) A f_G_isAtOrBelow 2 [some (jw_a G 4), some (.int x1), some (.int x2), some (.int (x3 + 1))] [] M2) ∧ (¬ r1 ≤ r2 → jw_R l X (jw_g G) A f_G_isAtOrBelow 0 M2))))))) : jw_X l X (jw_g G) A f_G_isAtOrBelow 2 [some (jw_a G 4), some (.int x1), some (.int x2), some (.int x3)] [] M := by
  refine jw_iload_n (i := 3) d_G_isAtOrBelow_2 rfl rfl ?_
  refine jw_iconst (v := 5) d_G_isAtOrBelow_3 jc_i_5 ?_
  refine jw_icmp_ge (tgt := 30) d_G_isAtOrBelow_4 (by decide) (fun hc => ?_) (fun hc => ?_)
  · have h := h.1 hc
    refine jw_iconst (v := 1) d_G_isAtOrBelow_30 jc_i_1 ?_
    exact jw_ireturn d_G_isAtOrBelow_31 rfl h
  · have h := h.2 hc
    refine jw_aload_n (i := 0) d_G_isAtOrBelow_7 rfl rfl ?_
    refine jw_iload_n (i := 1) d_G_isAtOrBelow_8 rfl rfl ?_
    refine jw_iload_n (i := 3) d_G_isAtOrBelow_9 rfl rfl ?_
    refine jw_callV (As := [.int x1, .int x3]) (S := []) d_G_isAtOrBelow_10 jw_k4 jw_c_G jw_ml_G_38 jw_in_f_G_clockCount jw_se_f_G_clockCount ⟨Nat.le_of_ble_eq_true rfl, Nat.le_of_ble_eq_true rfl⟩ rfl rfl (Nat.le_of_ble_eq_true rfl) (jw_M_mono h (fun r1 M1 h => ?_))
    refine jw_st (S' := [.int r1]) rfl ?_
    refine jw_aload_n (i := 0) d_G_isAtOrBelow_13 rfl rfl ?_
    refine jw_iload_n (i := 2) d_G_isAtOrBelow_14 rfl rfl ?_
    refine jw_iload_n (i := 3) d_G_isAtOrBelow_15 rfl rfl ?_
    refine jw_callV (As := [.int x2, .int x3]) (S := [.int r1]) d_G_isAtOrBelow_16 jw_k4 jw_c_G jw_ml_G_38 jw_in_f_G_clockCount jw_se_f_G_clockCount ⟨Nat.le_of_ble_eq_true rfl, Nat.le_of_ble_eq_true rfl⟩ rfl rfl (Nat.le_of_ble_eq_true rfl) (jw_M_mono h (fun r2 M2 h => ?_))
    refine jw_st (S' := [.int r2, .int r1]) rfl ?_
    refine jw_icmp_le (tgt := 24) d_G_isAtOrBelow_19 (by decide) (fun hc => ?_) (fun hc => ?_)
    · have h := h.1 hc
      refine jw_iinc (d := 1) d_G_isAtOrBelow_24 rfl jc_i_1 (Nat.le_of_ble_eq_true rfl) ?_
      refine jw_goto (tgt := 2) d_G_isAtOrBelow_27 (by decide) ?_
      exact h
    · have h := h.2 hc
      refine jw_iconst (v := 0) d_G_isAtOrBelow_22 jc_i_0 ?_
      exact jw_ireturn d_G_isAtOrBelow_23 rfl h
set_option maxRecDepth 100000 in
theorem e_G_isAtOrBelow {l : Launch} {G : jw_G} {A : Nat → Prop} {x1 : Int32} {x2 : Int32} {M : jw_Mem} {Q : Int32 → jw_Mem → Prop} (h : ∀ X : jw_X0, (∀ r M', Q r M' → (r = 0 ∨ r = 1) → jw_R l X (jw_g G) A f_G_isAtOrBelow r M') → jw_X l X (jw_g G) A f_G_isAtOrBelow 2 [some (jw_a G 4), some (.int x1), some (.int x2), some (.int 0)] [] M) : jw_M l (jw_g G) A f_G_isAtOrBelow [jw_a G 4, .int x1, .int x2] M Q := by
  refine jw_M_of (by decide) (Nat.le_of_ble_eq_true rfl) (by intro v hv; simp at hv; rcases hv with rfl | rfl | rfl <;> rfl) (fun X hR => ?_)
  exact k_G_isAtOrBelow_0  (h X (fun r M' q hb => hR r M' q (fun ty h0 => by cases h0; exact jw_nb hb)))
end
section
set_option maxRecDepth 100000 in
set_option maxHeartbeats 4000000 in
theorem k_N_hasHintOf_0 {l : Launch} {X : jw_X0} {G : jw_G} {A : Nat → Prop} {a : Nat} (ha : a < 5) {x1 : Int32} {M : jw_Mem} (h : (∃ j1 : Nat, (j1 < 40 ∧ x1 = nI j1) ∧ (((M (12 + 3 * a) j1) = (-1) → jw_R l X (jw_g G) A f_N_hasHintOf 0 M) ∧ (¬ (M (12 + 3 * a) j1) = (-1) → jw_R l X (jw_g G) A f_N_hasHintOf 1 M)))) : jw_X l X (jw_g G) A f_N_hasHintOf 0 [some (jw_a G (10 + 3 * a)), some (.int x1)] [] M := by
  refine jw_aload_n (i := 0) d_N_hasHintOf_0 rfl rfl ?_
  refine jw_get (j := 2) (v := jw_a G (12 + 3 * a)) d_N_hasHintOf_1 (jw_kN ha) jw_c_N jw_oc_N (Nat.le_of_ble_eq_true rfl) jw_fl_N_19 rfl rfl ?_
  refine jw_iload_n (i := 1) d_N_hasHintOf_4 rfl rfl ?_
  obtain ⟨j1, hj1, h⟩ := h
  refine jw_iald2 d_N_hasHintOf_5 (jw_kI ha) (Nat.le_of_ble_eq_true rfl) hj1 ?_
  refine jw_iconst (v := (-1)) d_N_hasHintOf_6 jc_i_m1 ?_
  refine jw_icmp_eq (tgt := 14) d_N_hasHintOf_7 (by decide) (fun hc => ?_) (fun hc => ?_)
  · have h := h.1 hc
    refine jw_iconst (v := 0) d_N_hasHintOf_14 jc_i_0 ?_
    exact jw_ireturn d_N_hasHintOf_15 rfl h
  · have h := h.2 hc
    refine jw_iconst (v := 1) d_N_hasHintOf_10 jc_i_1 ?_
    refine jw_goto (tgt := 15) d_N_hasHintOf_11 (by decide) ?_
    exact jw_ireturn d_N_hasHintOf_15 rfl h
set_option maxRecDepth 100000 in
theorem e_N_hasHintOf {l : Launch} {G : jw_G} {A : Nat → Prop} {a : Nat} (ha : a < 5) {x1 : Int32} {M : jw_Mem} {Q : Int32 → jw_Mem → Prop} (h : ∀ X : jw_X0, (∀ r M', Q r M' → (r = 0 ∨ r = 1) → jw_R l X (jw_g G) A f_N_hasHintOf r M') → (∃ j1 : Nat, (j1 < 40 ∧ x1 = nI j1) ∧ (((M (12 + 3 * a) j1) = (-1) → jw_R l X (jw_g G) A f_N_hasHintOf 0 M) ∧ (¬ (M (12 + 3 * a) j1) = (-1) → jw_R l X (jw_g G) A f_N_hasHintOf 1 M)))) : jw_M l (jw_g G) A f_N_hasHintOf [jw_a G (10 + 3 * a), .int x1] M Q := by
  refine jw_M_of (by decide) (Nat.le_of_ble_eq_true rfl) (by intro v hv; simp at hv; rcases hv with rfl | rfl <;> rfl) (fun X hR => ?_)
  exact k_N_hasHintOf_0 ha (h X (fun r M' q hb => hR r M' q (fun ty h0 => by cases h0; exact jw_nb hb)))

set_option maxRecDepth 100000 in
set_option maxHeartbeats 4000000 in
theorem k_N_take_0 {l : Launch} {X : jw_X0} {G : jw_G} {A : Nat → Prop} {a : Nat} (ha : a < 5) {x1 : Int32} {M : jw_Mem} (h : jw_M l (jw_g G) A f_N_isPassed [jw_a G (10 + 3 * a), .int x1] M (fun r1 M1 => ((r1 = 0 → jw_X l X (jw_g G) A f_N_take 12 [some (jw_a G (10 + 3 * a)), some (.int x1), some (.int 0)] [] M1) ∧ (¬ r1 = 0 → jw_R l X (jw_g G) A f_N_take 0 M1)))) : jw_X l X (jw_g G) A f_N_take 0 [some (jw_a G (10 + 3 * a)), some (.int x1), none] [] M := by
  refine jw_aload_n (i := 0) d_N_take_0 rfl rfl ?_
  refine jw_iload_n (i := 1) d_N_take_1 rfl rfl ?_
  refine jw_callV (As := [.int x1]) (S := []) d_N_take_2 (jw_kN ha) jw_c_N jw_ml_N_33 jw_in_f_N_isPassed jw_se_f_N_isPassed ⟨Nat.le_of_ble_eq_true rfl, Nat.le_of_ble_eq_true rfl⟩ rfl rfl (Nat.le_of_ble_eq_true rfl) (jw_M_mono h (fun r1 M1 h => ?_))
  refine jw_st (S' := [.int r1]) rfl ?_
  refine jw_if_eq (tgt := 10) d_N_take_5 (by decide) (fun hc => ?_) (fun hc => ?_)
  · have h := h.1 hc
    refine jw_iconst (v := 0) d_N_take_10 jc_i_0 ?_
    refine jw_istore_n (i := 2) d_N_take_11 rfl (Nat.le_of_ble_eq_true rfl) ?_
    exact h
  · have h := h.2 hc
    refine jw_iconst (v := 0) d_N_take_8 jc_i_0 ?_
    exact jw_ireturn d_N_take_9 rfl h
set_option maxRecDepth 100000 in
set_option maxHeartbeats 4000000 in
theorem k_N_take_12 {l : Launch} {X : jw_X0} {G : jw_G} {A : Nat → Prop} {a : Nat} (ha : a < 5) {x1 x2 : Int32} {M : jw_Mem} (h : (((M 4 4) ≤ x2 → (∃ j1 : Nat, (j1 < 40 ∧ x1 = nI j1) ∧ jw_R l X (jw_g G) A f_N_take 1 (jw_U M (11 + 3 * a) j1 1))) ∧ (¬ (M 4 4) ≤ x2 → jw_M l (jw_g G) A f_N_hasBeside [jw_a G (10 + 3 * a), .int x2, .int x1] M (fun r1 M1 => ((r1 = 0 → jw_X l X (jw_g G) A f_N_take 12 [some (jw_a G (10 + 3 * a)), some (.int x1), some (.int (x2 + 1))] [] M1) ∧ (¬ r1 = 0 → jw_M l (jw_g G) A f_G_isAtOrBelow [jw_a G 4, .int x2, .int x1] M1 (fun r2 M2 => ((r2 = 0 → jw_X l X (jw_g G) A f_N_take 12 [some (jw_a G (10 + 3 * a)), some (.int x1), some (.int (x2 + 1))] [] M2) ∧ (¬ r2 = 0 → (∃ j2 : Nat, (j2 < 40 ∧ x2 = nI j2) ∧ jw_X l X (jw_g G) A f_N_take 12 [some (jw_a G (10 + 3 * a)), some (.int x1), some (.int (x2 + 1))] [] (jw_U M2 (11 + 3 * a) j2 0))))))))))) : jw_X l X (jw_g G) A f_N_take 12 [some (jw_a G (10 + 3 * a)), some (.int x1), some (.int x2)] [] M := by
  refine jw_iload_n (i := 2) d_N_take_12 rfl rfl ?_
  refine jw_aload_n (i := 0) d_N_take_13 rfl rfl ?_
  refine jw_get (j := 0) (v := jw_a G 4) d_N_take_14 (jw_kN ha) jw_c_N jw_oc_N (Nat.le_of_ble_eq_true rfl) jw_fl_N_9 rfl rfl ?_
  refine jw_get (j := 4) (v := .int (M 4 4)) d_N_take_17 jw_k4 jw_c_G jw_oc_G (Nat.le_of_ble_eq_true rfl) jw_fl_N_37 rfl rfl ?_
  refine jw_icmp_ge (tgt := 57) d_N_take_20 (by decide) (fun hc => ?_) (fun hc => ?_)
  · have h := h.1 hc
    refine jw_aload_n (i := 0) d_N_take_57 rfl rfl ?_
    refine jw_get (j := 1) (v := jw_a G (11 + 3 * a)) d_N_take_58 (jw_kN ha) jw_c_N jw_oc_N (Nat.le_of_ble_eq_true rfl) jw_fl_N_15 rfl rfl ?_
    refine jw_iload_n (i := 1) d_N_take_61 rfl rfl ?_
    refine jw_iconst (v := 1) d_N_take_62 jc_i_1 ?_
    obtain ⟨j1, hj1, h⟩ := h
    refine jw_zast2 d_N_take_63 (jw_kH ha) (Nat.le_of_ble_eq_true rfl) hj1 jw_b1 ?_
    refine jw_iconst (v := 1) d_N_take_64 jc_i_1 ?_
    exact jw_ireturn d_N_take_65 rfl h
  · have h := h.2 hc
    refine jw_aload_n (i := 0) d_N_take_23 rfl rfl ?_
    refine jw_iload_n (i := 2) d_N_take_24 rfl rfl ?_
    refine jw_iload_n (i := 1) d_N_take_25 rfl rfl ?_
    refine jw_callV (As := [.int x2, .int x1]) (S := []) d_N_take_26 (jw_kN ha) jw_c_N jw_ml_N_43 jw_in_f_N_hasBeside jw_se_f_N_hasBeside ⟨Nat.le_of_ble_eq_true rfl, Nat.le_of_ble_eq_true rfl⟩ rfl rfl (Nat.le_of_ble_eq_true rfl) (jw_M_mono h (fun r1 M1 h => ?_))
    refine jw_st (S' := [.int r1]) rfl ?_
    refine jw_if_eq (tgt := 51) d_N_take_29 (by decide) (fun hc => ?_) (fun hc => ?_)
    · have h := h.1 hc
      refine jw_iinc (d := 1) d_N_take_51 rfl jc_i_1 (Nat.le_of_ble_eq_true rfl) ?_
      refine jw_goto (tgt := 12) d_N_take_54 (by decide) ?_
      exact h
    · have h := h.2 hc
      refine jw_aload_n (i := 0) d_N_take_32 rfl rfl ?_
      refine jw_get (j := 0) (v := jw_a G 4) d_N_take_33 (jw_kN ha) jw_c_N jw_oc_N (Nat.le_of_ble_eq_true rfl) jw_fl_N_9 rfl rfl ?_
      refine jw_iload_n (i := 2) d_N_take_36 rfl rfl ?_
      refine jw_iload_n (i := 1) d_N_take_37 rfl rfl ?_
      refine jw_callV (As := [.int x2, .int x1]) (S := []) d_N_take_38 jw_k4 jw_c_G jw_ml_N_47 jw_in_f_G_isAtOrBelow jw_se_f_G_isAtOrBelow ⟨Nat.le_of_ble_eq_true rfl, Nat.le_of_ble_eq_true rfl⟩ rfl rfl (Nat.le_of_ble_eq_true rfl) (jw_M_mono h (fun r2 M2 h => ?_))
      refine jw_st (S' := [.int r2]) rfl ?_
      refine jw_if_eq (tgt := 51) d_N_take_41 (by decide) (fun hc => ?_) (fun hc => ?_)
      · have h := h.1 hc
        refine jw_iinc (d := 1) d_N_take_51 rfl jc_i_1 (Nat.le_of_ble_eq_true rfl) ?_
        refine jw_goto (tgt := 12) d_N_take_54 (by decide) ?_
        exact h
      · have h := h.2 hc
        refine jw_aload_n (i := 0) d_N_take_44 rfl rfl ?_
        refine jw_get (j := 1) (v := jw_a G (11 + 3 * a)) d_N_take_45 (jw_kN ha) jw_c_N jw_oc_N (Nat.le_of_ble_eq_true rfl) jw_fl_N_15 rfl rfl ?_
        refine jw_iload_n (i := 2) d_N_take_48 rfl rfl ?_
        refine jw_iconst (v := 0) d_N_take_49 jc_i_0 ?_
        obtain ⟨j2, hj2, h⟩ := h
        refine jw_zast2 d_N_take_50 (jw_kH ha) (Nat.le_of_ble_eq_true rfl) hj2 jw_b0 ?_
        refine jw_iinc (d := 1) d_N_take_51 rfl jc_i_1 (Nat.le_of_ble_eq_true rfl) ?_
        refine jw_goto (tgt := 12) d_N_take_54 (by decide) ?_
        exact h
set_option maxRecDepth 100000 in
theorem e_N_take {l : Launch} {G : jw_G} {A : Nat → Prop} {a : Nat} (ha : a < 5) {x1 : Int32} {M : jw_Mem} {Q : Int32 → jw_Mem → Prop} (h : ∀ X : jw_X0, (∀ r M', Q r M' → (r = 0 ∨ r = 1) → jw_R l X (jw_g G) A f_N_take r M') → jw_M l (jw_g G) A f_N_isPassed [jw_a G (10 + 3 * a), .int x1] M (fun r1 M1 => ((r1 = 0 → jw_X l X (jw_g G) A f_N_take 12 [some (jw_a G (10 + 3 * a)), some (.int x1), some (.int 0)] [] M1) ∧ (¬ r1 = 0 → jw_R l X (jw_g G) A f_N_take 0 M1)))) : jw_M l (jw_g G) A f_N_take [jw_a G (10 + 3 * a), .int x1] M Q := by
  refine jw_M_of (by decide) (Nat.le_of_ble_eq_true rfl) (by intro v hv; simp at hv; rcases hv with rfl | rfl <;> rfl) (fun X hR => ?_)
  exact k_N_take_0 ha (h X (fun r M' q hb => hR r M' q (fun ty h0 => by cases h0; exact jw_nb hb)))

set_option maxRecDepth 100000 in
set_option maxHeartbeats 4000000 in
theorem k_N_isPassed_0 {l : Launch} {X : jw_X0} {G : jw_G} {A : Nat → Prop} {a : Nat} (ha : a < 5) {x1 : Int32} {M : jw_Mem} (h : jw_X l X (jw_g G) A f_N_isPassed 2 [some (jw_a G (10 + 3 * a)), some (.int x1), some (.int 0)] [] M) : jw_X l X (jw_g G) A f_N_isPassed 0 [some (jw_a G (10 + 3 * a)), some (.int x1), none] [] M := by
  refine jw_iconst (v := 0) d_N_isPassed_0 jc_i_0 ?_
  refine jw_istore_n (i := 2) d_N_isPassed_1 rfl (Nat.le_of_ble_eq_true rfl) ?_
  exact h
set_option maxRecDepth 100000 in
set_option maxHeartbeats 4000000 in
theorem k_N_isPassed_2 {l : Launch} {X : jw_X0} {G : jw_G} {A : Nat → Prop} {a : Nat} (ha : a < 5) {x1 x2 : Int32} {M : jw_Mem} (h : (((M 4 4) ≤ x2 → jw_R l X (jw_g G) A f_N_isPassed 0 M) ∧ (¬ (M 4 4) ≤ x2 → jw_M l (jw_g G) A f_N_hasBeside [jw_a G (10 + 3 * a), .int x2, .int x1] M (fun r1 M1 => ((r1 = 0 → jw_X l X (jw_g G) A f_N_isPassed 2 [some (jw_a G (10 + 3 * a)), some (.int x1), some (.int (x2 + 1))] [] M1) ∧ (¬ r1 = 0 → jw_M l (jw_g G) A f_G_isAtOrBelow [jw_a G 4, .int x1, .int x2] M1 (fun r2 M2 => ((r2 = 0 → jw_X l X (jw_g G) A f_N_isPassed 2 [some (jw_a G (10 + 3 * a)), some (.int x1), some (.int (x2 + 1))] [] M2) ∧ (¬ r2 = 0 → jw_R l X (jw_g G) A f_N_isPassed 1 M2))))))))) : jw_X l X (jw_g G) A f_N_isPassed 2 [some (jw_a G (10 + 3 * a)), some (.int x1), some (.int x2)] [] M := by
  refine jw_iload_n (i := 2) d_N_isPassed_2 rfl rfl ?_
  refine jw_aload_n (i := 0) d_N_isPassed_3 rfl rfl ?_
  refine jw_get (j := 0) (v := jw_a G 4) d_N_isPassed_4 (jw_kN ha) jw_c_N jw_oc_N (Nat.le_of_ble_eq_true rfl) jw_fl_N_9 rfl rfl ?_
  refine jw_get (j := 4) (v := .int (M 4 4)) d_N_isPassed_7 jw_k4 jw_c_G jw_oc_G (Nat.le_of_ble_eq_true rfl) jw_fl_N_37 rfl rfl ?_
  refine jw_icmp_ge (tgt := 42) d_N_isPassed_10 (by decide) (fun hc => ?_) (fun hc => ?_)
  · have h := h.1 hc
    refine jw_iconst (v := 0) d_N_isPassed_42 jc_i_0 ?_
    exact jw_ireturn d_N_isPassed_43 rfl h
  · have h := h.2 hc
    refine jw_aload_n (i := 0) d_N_isPassed_13 rfl rfl ?_
    refine jw_iload_n (i := 2) d_N_isPassed_14 rfl rfl ?_
    refine jw_iload_n (i := 1) d_N_isPassed_15 rfl rfl ?_
    refine jw_callV (As := [.int x2, .int x1]) (S := []) d_N_isPassed_16 (jw_kN ha) jw_c_N jw_ml_N_43 jw_in_f_N_hasBeside jw_se_f_N_hasBeside ⟨Nat.le_of_ble_eq_true rfl, Nat.le_of_ble_eq_true rfl⟩ rfl rfl (Nat.le_of_ble_eq_true rfl) (jw_M_mono h (fun r1 M1 h => ?_))
    refine jw_st (S' := [.int r1]) rfl ?_
    refine jw_if_eq (tgt := 36) d_N_isPassed_19 (by decide) (fun hc => ?_) (fun hc => ?_)
    · have h := h.1 hc
      refine jw_iinc (d := 1) d_N_isPassed_36 rfl jc_i_1 (Nat.le_of_ble_eq_true rfl) ?_
      refine jw_goto (tgt := 2) d_N_isPassed_39 (by decide) ?_
      exact h
    · have h := h.2 hc
      refine jw_aload_n (i := 0) d_N_isPassed_22 rfl rfl ?_
      refine jw_get (j := 0) (v := jw_a G 4) d_N_isPassed_23 (jw_kN ha) jw_c_N jw_oc_N (Nat.le_of_ble_eq_true rfl) jw_fl_N_9 rfl rfl ?_
      refine jw_iload_n (i := 1) d_N_isPassed_26 rfl rfl ?_
      refine jw_iload_n (i := 2) d_N_isPassed_27 rfl rfl ?_
      refine jw_callV (As := [.int x1, .int x2]) (S := []) d_N_isPassed_28 jw_k4 jw_c_G jw_ml_N_47 jw_in_f_G_isAtOrBelow jw_se_f_G_isAtOrBelow ⟨Nat.le_of_ble_eq_true rfl, Nat.le_of_ble_eq_true rfl⟩ rfl rfl (Nat.le_of_ble_eq_true rfl) (jw_M_mono h (fun r2 M2 h => ?_))
      refine jw_st (S' := [.int r2]) rfl ?_
      refine jw_if_eq (tgt := 36) d_N_isPassed_31 (by decide) (fun hc => ?_) (fun hc => ?_)
      · have h := h.1 hc
        refine jw_iinc (d := 1) d_N_isPassed_36 rfl jc_i_1 (Nat.le_of_ble_eq_true rfl) ?_
        refine jw_goto (tgt := 2) d_N_isPassed_39 (by decide) ?_
        exact h
      · have h := h.2 hc
        refine jw_iconst (v := 1) d_N_isPassed_34 jc_i_1 ?_
        exact jw_ireturn d_N_isPassed_35 rfl h
set_option maxRecDepth 100000 in
theorem e_N_isPassed {l : Launch} {G : jw_G} {A : Nat → Prop} {a : Nat} (ha : a < 5) {x1 : Int32} {M : jw_Mem} {Q : Int32 → jw_Mem → Prop} (h : ∀ X : jw_X0, (∀ r M', Q r M' → (r = 0 ∨ r = 1) → jw_R l X (jw_g G) A f_N_isPassed r M') → jw_X l X (jw_g G) A f_N_isPassed 2 [some (jw_a G (10 + 3 * a)), some (.int x1), some (.int 0)] [] M) : jw_M l (jw_g G) A f_N_isPassed [jw_a G (10 + 3 * a), .int x1] M Q := by
  refine jw_M_of (by decide) (Nat.le_of_ble_eq_true rfl) (by intro v hv; simp at hv; rcases hv with rfl | rfl <;> rfl) (fun X hR => ?_)
  exact k_N_isPassed_0 ha (h X (fun r M' q hb => hR r M' q (fun ty h0 => by cases h0; exact jw_nb hb)))

set_option maxRecDepth 100000 in
set_option maxHeartbeats 4000000 in
theorem k_N_hasBeside_0 {l : Launch} {X : jw_X0} {G : jw_G} {A : Nat → Prop} {a : Nat} (ha : a < 5) {x1 : Int32} {x2 : Int32} {M : jw_Mem} (h : (∃ j1 : Nat, (j1 < 40 ∧ x1 = nI j1) ∧ (((M (11 + 3 * a) j1) = 0 → jw_R l X (jw_g G) A f_N_hasBeside 0 M) ∧ (¬ (M (11 + 3 * a) j1) = 0 → (∃ j2 : Nat, (j2 < 40 ∧ x1 = nI j2) ∧ (∃ j3 : Nat, (j3 < 40 ∧ x2 = nI j3) ∧ ((¬ (M 5 j2) = (M 5 j3) → jw_R l X (jw_g G) A f_N_hasBeside 0 M) ∧ ((M 5 j2) = (M 5 j3) → jw_R l X (jw_g G) A f_N_hasBeside 1 M)))))))) : jw_X l X (jw_g G) A f_N_hasBeside 0 [some (jw_a G (10 + 3 * a)), some (.int x1), some (.int x2)] [] M := by
  refine jw_aload_n (i := 0) d_N_hasBeside_0 rfl rfl ?_
  refine jw_get (j := 1) (v := jw_a G (11 + 3 * a)) d_N_hasBeside_1 (jw_kN ha) jw_c_N jw_oc_N (Nat.le_of_ble_eq_true rfl) jw_fl_N_15 rfl rfl ?_
  refine jw_iload_n (i := 1) d_N_hasBeside_4 rfl rfl ?_
  obtain ⟨j1, hj1, h⟩ := h
  refine jw_zald2 d_N_hasBeside_5 (jw_kH ha) (Nat.le_of_ble_eq_true rfl) hj1 ?_
  refine jw_if_eq (tgt := 34) d_N_hasBeside_6 (by decide) (fun hc => ?_) (fun hc => ?_)
  · have h := h.1 hc
    refine jw_iconst (v := 0) d_N_hasBeside_34 jc_i_0 ?_
    exact jw_ireturn d_N_hasBeside_35 rfl h
  · have h := h.2 hc
    refine jw_aload_n (i := 0) d_N_hasBeside_9 rfl rfl ?_
    refine jw_get (j := 0) (v := jw_a G 4) d_N_hasBeside_10 (jw_kN ha) jw_c_N jw_oc_N (Nat.le_of_ble_eq_true rfl) jw_fl_N_9 rfl rfl ?_
    refine jw_get (j := 0) (v := jw_a G 5) d_N_hasBeside_13 jw_k4 jw_c_G jw_oc_G (Nat.le_of_ble_eq_true rfl) jw_fl_N_50 rfl rfl ?_
    refine jw_iload_n (i := 1) d_N_hasBeside_16 rfl rfl ?_
    obtain ⟨j2, hj2, h⟩ := h
    refine jw_iald2 d_N_hasBeside_17 jw_k5 (Nat.le_of_ble_eq_true rfl) hj2 ?_
    refine jw_aload_n (i := 0) d_N_hasBeside_18 rfl rfl ?_
    refine jw_get (j := 0) (v := jw_a G 4) d_N_hasBeside_19 (jw_kN ha) jw_c_N jw_oc_N (Nat.le_of_ble_eq_true rfl) jw_fl_N_9 rfl rfl ?_
    refine jw_get (j := 0) (v := jw_a G 5) d_N_hasBeside_22 jw_k4 jw_c_G jw_oc_G (Nat.le_of_ble_eq_true rfl) jw_fl_N_50 rfl rfl ?_
    refine jw_iload_n (i := 2) d_N_hasBeside_25 rfl rfl ?_
    obtain ⟨j3, hj3, h⟩ := h
    refine jw_iald2 d_N_hasBeside_26 jw_k5 (Nat.le_of_ble_eq_true rfl) hj3 ?_
    refine jw_icmp_ne (tgt := 34) d_N_hasBeside_27 (by decide) (fun hc => ?_) (fun hc => ?_)
    · have h := h.1 hc
      refine jw_iconst (v := 0) d_N_hasBeside_34 jc_i_0 ?_
      exact jw_ireturn d_N_hasBeside_35 rfl h
    · have h := h.2 hc
      refine jw_iconst (v := 1) d_N_hasBeside_30 jc_i_1 ?_
      refine jw_goto (tgt := 35) d_N_hasBeside_31 (by decide) ?_
      exact jw_ireturn d_N_hasBeside_35 rfl h
set_option maxRecDepth 100000 in
theorem e_N_hasBeside {l : Launch} {G : jw_G} {A : Nat → Prop} {a : Nat} (ha : a < 5) {x1 : Int32} {x2 : Int32} {M : jw_Mem} {Q : Int32 → jw_Mem → Prop} (h : ∀ X : jw_X0, (∀ r M', Q r M' → (r = 0 ∨ r = 1) → jw_R l X (jw_g G) A f_N_hasBeside r M') → (∃ j1 : Nat, (j1 < 40 ∧ x1 = nI j1) ∧ (((M (11 + 3 * a) j1) = 0 → jw_R l X (jw_g G) A f_N_hasBeside 0 M) ∧ (¬ (M (11 + 3 * a) j1) = 0 → (∃ j2 : Nat, (j2 < 40 ∧ x1 = nI j2) ∧ (∃ j3 : Nat, (j3 < 40 ∧ x2 = nI j3) ∧ ((¬ (M 5 j2) = (M 5 j3) → jw_R l X (jw_g G) A f_N_hasBeside 0 M) ∧ ((M 5 j2) = (M 5 j3) → jw_R l X (jw_g G) A f_N_hasBeside 1 M)))))))) : jw_M l (jw_g G) A f_N_hasBeside [jw_a G (10 + 3 * a), .int x1, .int x2] M Q := by
  refine jw_M_of (by decide) (Nat.le_of_ble_eq_true rfl) (by intro v hv; simp at hv; rcases hv with rfl | rfl | rfl <;> rfl) (fun X hR => ?_)
  exact k_N_hasBeside_0 ha (h X (fun r M' q hb => hR r M' q (fun ty h0 => by cases h0; exact jw_nb hb)))

set_option maxRecDepth 100000 in
set_option maxHeartbeats 4000000 in
theorem k_N_takeAll_0 {l : Launch} {X : jw_X0} {G : jw_G} {A : Nat → Prop} {a : Nat} (ha : a < 5) {q : Nat} (hq : jw_KT[q]? = some (2, 40, [])) {M : jw_Mem} (h : jw_X l X (jw_g G) A f_N_takeAll 4 [some (jw_a G (10 + 3 * a)), some (jw_a G q), some (.int 0), some (.int 0)] [] M) : jw_X l X (jw_g G) A f_N_takeAll 0 [some (jw_a G (10 + 3 * a)), some (jw_a G q), none, none] [] M := by
  refine jw_iconst (v := 0) d_N_takeAll_0 jc_i_0 ?_
  refine jw_istore_n (i := 2) d_N_takeAll_1 rfl (Nat.le_of_ble_eq_true rfl) ?_
  refine jw_iconst (v := 0) d_N_takeAll_2 jc_i_0 ?_
  refine jw_istore_n (i := 3) d_N_takeAll_3 rfl (Nat.le_of_ble_eq_true rfl) ?_
  exact h
set_option maxRecDepth 100000 in
set_option maxHeartbeats 4000000 in
theorem k_N_takeAll_4 {l : Launch} {X : jw_X0} {G : jw_G} {A : Nat → Prop} {a : Nat} (ha : a < 5) {q : Nat} (hq : jw_KT[q]? = some (2, 40, [])) {x2 x3 : Int32} {M : jw_Mem} (h : (((M 4 4) ≤ x3 → jw_R l X (jw_g G) A f_N_takeAll x2 M) ∧ (¬ (M 4 4) ≤ x3 → (∃ j1 : Nat, (j1 < 40 ∧ x3 = nI j1) ∧ (((M q j1) = 0 → jw_X l X (jw_g G) A f_N_takeAll 4 [some (jw_a G (10 + 3 * a)), some (jw_a G q), some (.int x2), some (.int (x3 + 1))] [] M) ∧ (¬ (M q j1) = 0 → jw_M l (jw_g G) A f_N_take [jw_a G (10 + 3 * a), .int x3] M (fun r1 M1 => ((r1 = 0 → jw_X l X (jw_g G) A f_N_takeAll 4 [some (jw_a G (10 + 3 * a)), some (jw_a G q), some (.int x2), some (.int (x3 + 1))] [] M1) ∧ (¬ r1 = 0 → jw_X l X (jw_g G) A f_N_takeAll 4 [some (jw_a G (10 + 3 * a)), some (jw_a G q), some (.int (x2 + 1)), some (.int (x3 + 1))] [] M1))))))))) : jw_X l X (jw_g G) A f_N_takeAll 4 [some (jw_a G (10 + 3 * a)), some (jw_a G q), some (.int x2), some (.int x3)] [] M := by
  refine jw_iload_n (i := 3) d_N_takeAll_4 rfl rfl ?_
  refine jw_aload_n (i := 0) d_N_takeAll_5 rfl rfl ?_
  refine jw_get (j := 0) (v := jw_a G 4) d_N_takeAll_6 (jw_kN ha) jw_c_N jw_oc_N (Nat.le_of_ble_eq_true rfl) jw_fl_N_9 rfl rfl ?_
  refine jw_get (j := 4) (v := .int (M 4 4)) d_N_takeAll_9 jw_k4 jw_c_G jw_oc_G (Nat.le_of_ble_eq_true rfl) jw_fl_N_37 rfl rfl ?_
  refine jw_icmp_ge (tgt := 38) d_N_takeAll_12 (by decide) (fun hc => ?_) (fun hc => ?_)
  · have h := h.1 hc
    refine jw_iload_n (i := 2) d_N_takeAll_38 rfl rfl ?_
    exact jw_ireturn d_N_takeAll_39 rfl h
  · have h := h.2 hc
    refine jw_aload_n (i := 1) d_N_takeAll_15 rfl rfl ?_
    refine jw_iload_n (i := 3) d_N_takeAll_16 rfl rfl ?_
    obtain ⟨j1, hj1, h⟩ := h
    refine jw_zald2 d_N_takeAll_17 hq (Nat.le_of_ble_eq_true rfl) hj1 ?_
    refine jw_if_eq (tgt := 32) d_N_takeAll_18 (by decide) (fun hc => ?_) (fun hc => ?_)
    · have h := h.1 hc
      refine jw_iinc (d := 1) d_N_takeAll_32 rfl jc_i_1 (Nat.le_of_ble_eq_true rfl) ?_
      refine jw_goto (tgt := 4) d_N_takeAll_35 (by decide) ?_
      exact h
    · have h := h.2 hc
      refine jw_aload_n (i := 0) d_N_takeAll_21 rfl rfl ?_
      refine jw_iload_n (i := 3) d_N_takeAll_22 rfl rfl ?_
      refine jw_callV (As := [.int x3]) (S := []) d_N_takeAll_23 (jw_kN ha) jw_c_N jw_ml_N_53 jw_in_f_N_take jw_se_f_N_take ⟨Nat.le_of_ble_eq_true rfl, Nat.le_of_ble_eq_true rfl⟩ rfl rfl (Nat.le_of_ble_eq_true rfl) (jw_M_mono h (fun r1 M1 h => ?_))
      refine jw_st (S' := [.int r1]) rfl ?_
      refine jw_if_eq (tgt := 32) d_N_takeAll_26 (by decide) (fun hc => ?_) (fun hc => ?_)
      · have h := h.1 hc
        refine jw_iinc (d := 1) d_N_takeAll_32 rfl jc_i_1 (Nat.le_of_ble_eq_true rfl) ?_
        refine jw_goto (tgt := 4) d_N_takeAll_35 (by decide) ?_
        exact h
      · have h := h.2 hc
        refine jw_iinc (d := 1) d_N_takeAll_29 rfl jc_i_1 (Nat.le_of_ble_eq_true rfl) ?_
        refine jw_iinc (d := 1) d_N_takeAll_32 rfl jc_i_1 (Nat.le_of_ble_eq_true rfl) ?_
        refine jw_goto (tgt := 4) d_N_takeAll_35 (by decide) ?_
        exact h
set_option maxRecDepth 100000 in
theorem e_N_takeAll {l : Launch} {G : jw_G} {A : Nat → Prop} {a : Nat} (ha : a < 5) {q : Nat} (hq : jw_KT[q]? = some (2, 40, [])) {M : jw_Mem} {Q : Int32 → jw_Mem → Prop} (h : ∀ X : jw_X0, (∀ r M', Q r M' → jw_R l X (jw_g G) A f_N_takeAll r M') → jw_X l X (jw_g G) A f_N_takeAll 4 [some (jw_a G (10 + 3 * a)), some (jw_a G q), some (.int 0), some (.int 0)] [] M) : jw_M l (jw_g G) A f_N_takeAll [jw_a G (10 + 3 * a), jw_a G q] M Q := by
  refine jw_M_of (by decide) (Nat.le_of_ble_eq_true rfl) (by intro v hv; simp at hv; rcases hv with rfl | rfl <;> rfl) (fun X hR => ?_)
  exact k_N_takeAll_0 ha hq (h X (fun r M' q => hR r M' q (fun ty h0 => by cases h0; rfl)))

set_option maxRecDepth 100000 in
set_option maxHeartbeats 4000000 in
theorem k_N_dropAll_0 {l : Launch} {X : jw_X0} {G : jw_G} {A : Nat → Prop} {a : Nat} (ha : a < 5) {q : Nat} (hq : jw_KT[q]? = some (2, 40, [])) {M : jw_Mem} (h : jw_X l X (jw_g G) A f_N_dropAll 2 [some (jw_a G (10 + 3 * a)), some (jw_a G q), some (.int 0)] [] M) : jw_X l X (jw_g G) A f_N_dropAll 0 [some (jw_a G (10 + 3 * a)), some (jw_a G q), none] [] M := by
  refine jw_iconst (v := 0) d_N_dropAll_0 jc_i_0 ?_
  refine jw_istore_n (i := 2) d_N_dropAll_1 rfl (Nat.le_of_ble_eq_true rfl) ?_
  exact h
set_option maxRecDepth 100000 in
set_option maxHeartbeats 4000000 in
theorem k_N_dropAll_2 {l : Launch} {X : jw_X0} {G : jw_G} {A : Nat → Prop} {a : Nat} (ha : a < 5) {q : Nat} (hq : jw_KT[q]? = some (2, 40, [])) {x2 : Int32} {M : jw_Mem} (h : (((M 4 4) ≤ x2 → jw_R l X (jw_g G) A f_N_dropAll 0 M) ∧ (¬ (M 4 4) ≤ x2 → (∃ j1 : Nat, (j1 < 40 ∧ x2 = nI j1) ∧ (((M q j1) = 0 → jw_X l X (jw_g G) A f_N_dropAll 2 [some (jw_a G (10 + 3 * a)), some (jw_a G q), some (.int (x2 + 1))] [] M) ∧ (¬ (M q j1) = 0 → (∃ j2 : Nat, (j2 < 40 ∧ x2 = nI j2) ∧ jw_X l X (jw_g G) A f_N_dropAll 2 [some (jw_a G (10 + 3 * a)), some (jw_a G q), some (.int (x2 + 1))] [] (jw_U M (11 + 3 * a) j2 0)))))))) : jw_X l X (jw_g G) A f_N_dropAll 2 [some (jw_a G (10 + 3 * a)), some (jw_a G q), some (.int x2)] [] M := by
  refine jw_iload_n (i := 2) d_N_dropAll_2 rfl rfl ?_
  refine jw_aload_n (i := 0) d_N_dropAll_3 rfl rfl ?_
  refine jw_get (j := 0) (v := jw_a G 4) d_N_dropAll_4 (jw_kN ha) jw_c_N jw_oc_N (Nat.le_of_ble_eq_true rfl) jw_fl_N_9 rfl rfl ?_
  refine jw_get (j := 4) (v := .int (M 4 4)) d_N_dropAll_7 jw_k4 jw_c_G jw_oc_G (Nat.le_of_ble_eq_true rfl) jw_fl_N_37 rfl rfl ?_
  refine jw_icmp_ge (tgt := 32) d_N_dropAll_10 (by decide) (fun hc => ?_) (fun hc => ?_)
  · have h := h.1 hc
    exact jw_return d_N_dropAll_32 rfl h
  · have h := h.2 hc
    refine jw_aload_n (i := 1) d_N_dropAll_13 rfl rfl ?_
    refine jw_iload_n (i := 2) d_N_dropAll_14 rfl rfl ?_
    obtain ⟨j1, hj1, h⟩ := h
    refine jw_zald2 d_N_dropAll_15 hq (Nat.le_of_ble_eq_true rfl) hj1 ?_
    refine jw_if_eq (tgt := 26) d_N_dropAll_16 (by decide) (fun hc => ?_) (fun hc => ?_)
    · have h := h.1 hc
      refine jw_iinc (d := 1) d_N_dropAll_26 rfl jc_i_1 (Nat.le_of_ble_eq_true rfl) ?_
      refine jw_goto (tgt := 2) d_N_dropAll_29 (by decide) ?_
      exact h
    · have h := h.2 hc
      refine jw_aload_n (i := 0) d_N_dropAll_19 rfl rfl ?_
      refine jw_get (j := 1) (v := jw_a G (11 + 3 * a)) d_N_dropAll_20 (jw_kN ha) jw_c_N jw_oc_N (Nat.le_of_ble_eq_true rfl) jw_fl_N_15 rfl rfl ?_
      refine jw_iload_n (i := 2) d_N_dropAll_23 rfl rfl ?_
      refine jw_iconst (v := 0) d_N_dropAll_24 jc_i_0 ?_
      obtain ⟨j2, hj2, h⟩ := h
      refine jw_zast2 d_N_dropAll_25 (jw_kH ha) (Nat.le_of_ble_eq_true rfl) hj2 jw_b0 ?_
      refine jw_iinc (d := 1) d_N_dropAll_26 rfl jc_i_1 (Nat.le_of_ble_eq_true rfl) ?_
      refine jw_goto (tgt := 2) d_N_dropAll_29 (by decide) ?_
      exact h
set_option maxRecDepth 100000 in
theorem e_N_dropAll {l : Launch} {G : jw_G} {A : Nat → Prop} {a : Nat} (ha : a < 5) {q : Nat} (hq : jw_KT[q]? = some (2, 40, [])) {M : jw_Mem} {Q : Int32 → jw_Mem → Prop} (h : ∀ X : jw_X0, (∀ M', Q 0 M' → jw_R l X (jw_g G) A f_N_dropAll 0 M') → jw_X l X (jw_g G) A f_N_dropAll 2 [some (jw_a G (10 + 3 * a)), some (jw_a G q), some (.int 0)] [] M) : jw_M l (jw_g G) A f_N_dropAll [jw_a G (10 + 3 * a), jw_a G q] M Q := by
  refine jw_M_of (by decide) (Nat.le_of_ble_eq_true rfl) (by intro v hv; simp at hv; rcases hv with rfl | rfl <;> rfl) (fun X hR => ?_)
  exact k_N_dropAll_0 ha hq (h X (fun M' q => hR 0 M' q (fun ty h0 => nomatch h0)))

set_option maxRecDepth 100000 in
set_option maxHeartbeats 4000000 in
theorem k_N_writeOut_0 {l : Launch} {X : jw_X0} {G : jw_G} {A : Nat → Prop} {a : Nat} (ha : a < 5) {x1 : Int32} {q : Nat} (hq : jw_KT[q]? = some (2, 40, [])) {M : jw_Mem} (h : jw_X l X (jw_g G) A f_N_writeOut 5 [some (jw_a G (10 + 3 * a)), some (.int x1), some (jw_a G q), some (.int 0), some (.int 0)] [] M) : jw_X l X (jw_g G) A f_N_writeOut 0 [some (jw_a G (10 + 3 * a)), some (.int x1), some (jw_a G q), none, none] [] M := by
  refine jw_iconst (v := 0) d_N_writeOut_0 jc_i_0 ?_
  refine jw_istore_n (i := 3) d_N_writeOut_1 rfl (Nat.le_of_ble_eq_true rfl) ?_
  refine jw_iconst (v := 0) d_N_writeOut_2 jc_i_0 ?_
  refine jw_istore d_N_writeOut_3 (Nat.le_of_ble_eq_true rfl) ?_
  exact h
set_option maxRecDepth 100000 in
set_option maxHeartbeats 4000000 in
theorem k_N_writeOut_5 {l : Launch} {X : jw_X0} {G : jw_G} {A : Nat → Prop} {a : Nat} (ha : a < 5) {q : Nat} (hq : jw_KT[q]? = some (2, 40, [])) {x1 x3 x4 : Int32} {M : jw_Mem} (h : (((M 4 4) ≤ x4 → jw_R l X (jw_g G) A f_N_writeOut x3 M) ∧ (¬ (M 4 4) ≤ x4 → (∃ j1 : Nat, (j1 < 40 ∧ x4 = nI j1) ∧ (((M (11 + 3 * a) j1) = 0 → (∃ j2 : Nat, (j2 < 40 ∧ x4 = nI j2) ∧ (∃ j3 : Nat, (j3 < 40 ∧ x4 = nI j3) ∧ ((((jw_U M q j2 0) q j3) = 0 → jw_X l X (jw_g G) A f_N_writeOut 5 [some (jw_a G (10 + 3 * a)), some (.int x1), some (jw_a G q), some (.int x3), some (.int (x4 + 1))] [] (jw_U M q j2 0)) ∧ (¬ ((jw_U M q j2 0) q j3) = 0 → jw_X l X (jw_g G) A f_N_writeOut 5 [some (jw_a G (10 + 3 * a)), some (.int x1), some (jw_a G q), some (.int (x3 + 1)), some (.int (x4 + 1))] [] (jw_U M q j2 0)))))) ∧ (¬ (M (11 + 3 * a) j1) = 0 → (∃ j4 : Nat, (j4 < 40 ∧ x4 = nI j4) ∧ ((¬ (M 5 j4) = x1 → (∃ j5 : Nat, (j5 < 40 ∧ x4 = nI j5) ∧ (∃ j6 : Nat, (j6 < 40 ∧ x4 = nI j6) ∧ ((((jw_U M q j5 0) q j6) = 0 → jw_X l X (jw_g G) A f_N_writeOut 5 [some (jw_a G (10 + 3 * a)), some (.int x1), some (jw_a G q), some (.int x3), some (.int (x4 + 1))] [] (jw_U M q j5 0)) ∧ (¬ ((jw_U M q j5 0) q j6) = 0 → jw_X l X (jw_g G) A f_N_writeOut 5 [some (jw_a G (10 + 3 * a)), some (.int x1), some (jw_a G q), some (.int (x3 + 1)), some (.int (x4 + 1))] [] (jw_U M q j5 0)))))) ∧ ((M 5 j4) = x1 → (∃ j7 : Nat, (j7 < 40 ∧ x4 = nI j7) ∧ (∃ j8 : Nat, (j8 < 40 ∧ x4 = nI j8) ∧ ((((jw_U M q j7 1) q j8) = 0 → jw_X l X (jw_g G) A f_N_writeOut 5 [some (jw_a G (10 + 3 * a)), some (.int x1), some (jw_a G q), some (.int x3), some (.int (x4 + 1))] [] (jw_U M q j7 1)) ∧ (¬ ((jw_U M q j7 1) q j8) = 0 → jw_X l X (jw_g G) A f_N_writeOut 5 [some (jw_a G (10 + 3 * a)), some (.int x1), some (jw_a G q), some (.int (x3 + 1)), some (.int (x4 + 1))] [] (jw_U M q j7 1)))))))))))))) : jw_X l X (jw_g G) A f_N_writeOut 5 [some (jw_a G (10 + 3 * a)), some (.int x1), some (jw_a G q), some (.int x3), some (.int x4)] [] M := by
  refine jw_iload d_N_writeOut_5 rfl ?_
  refine jw_aload_n (i := 0) d_N_writeOut_7 rfl rfl ?_
  refine jw_get (j := 0) (v := jw_a G 4) d_N_writeOut_8 (jw_kN ha) jw_c_N jw_oc_N (Nat.le_of_ble_eq_true rfl) jw_fl_N_9 rfl rfl ?_
  refine jw_get (j := 4) (v := .int (M 4 4)) d_N_writeOut_11 jw_k4 jw_c_G jw_oc_G (Nat.le_of_ble_eq_true rfl) jw_fl_N_37 rfl rfl ?_
  refine jw_icmp_ge (tgt := 66) d_N_writeOut_14 (by decide) (fun hc => ?_) (fun hc => ?_)
  · have h := h.1 hc
    refine jw_iload_n (i := 3) d_N_writeOut_66 rfl rfl ?_
    exact jw_ireturn d_N_writeOut_67 rfl h
  · have h := h.2 hc
    refine jw_aload_n (i := 2) d_N_writeOut_17 rfl rfl ?_
    refine jw_iload d_N_writeOut_18 rfl ?_
    refine jw_aload_n (i := 0) d_N_writeOut_20 rfl rfl ?_
    refine jw_get (j := 1) (v := jw_a G (11 + 3 * a)) d_N_writeOut_21 (jw_kN ha) jw_c_N jw_oc_N (Nat.le_of_ble_eq_true rfl) jw_fl_N_15 rfl rfl ?_
    refine jw_iload d_N_writeOut_24 rfl ?_
    obtain ⟨j1, hj1, h⟩ := h
    refine jw_zald2 d_N_writeOut_26 (jw_kH ha) (Nat.le_of_ble_eq_true rfl) hj1 ?_
    refine jw_if_eq (tgt := 48) d_N_writeOut_27 (by decide) (fun hc => ?_) (fun hc => ?_)
    · have h := h.1 hc
      refine jw_iconst (v := 0) d_N_writeOut_48 jc_i_0 ?_
      obtain ⟨j2, hj2, h⟩ := h
      refine jw_zast2 d_N_writeOut_49 hq (Nat.le_of_ble_eq_true rfl) hj2 jw_b0 ?_
      refine jw_aload_n (i := 2) d_N_writeOut_50 rfl rfl ?_
      refine jw_iload d_N_writeOut_51 rfl ?_
      obtain ⟨j3, hj3, h⟩ := h
      refine jw_zald2 d_N_writeOut_53 hq (Nat.le_of_ble_eq_true rfl) hj3 ?_
      refine jw_if_eq (tgt := 60) d_N_writeOut_54 (by decide) (fun hc => ?_) (fun hc => ?_)
      · have h := h.1 hc
        refine jw_iinc (d := 1) d_N_writeOut_60 rfl jc_i_1 (Nat.le_of_ble_eq_true rfl) ?_
        refine jw_goto (tgt := 5) d_N_writeOut_63 (by decide) ?_
        exact h
      · have h := h.2 hc
        refine jw_iinc (d := 1) d_N_writeOut_57 rfl jc_i_1 (Nat.le_of_ble_eq_true rfl) ?_
        refine jw_iinc (d := 1) d_N_writeOut_60 rfl jc_i_1 (Nat.le_of_ble_eq_true rfl) ?_
        refine jw_goto (tgt := 5) d_N_writeOut_63 (by decide) ?_
        exact h
    · have h := h.2 hc
      refine jw_aload_n (i := 0) d_N_writeOut_30 rfl rfl ?_
      refine jw_get (j := 0) (v := jw_a G 4) d_N_writeOut_31 (jw_kN ha) jw_c_N jw_oc_N (Nat.le_of_ble_eq_true rfl) jw_fl_N_9 rfl rfl ?_
      refine jw_get (j := 0) (v := jw_a G 5) d_N_writeOut_34 jw_k4 jw_c_G jw_oc_G (Nat.le_of_ble_eq_true rfl) jw_fl_N_50 rfl rfl ?_
      refine jw_iload d_N_writeOut_37 rfl ?_
      obtain ⟨j4, hj4, h⟩ := h
      refine jw_iald2 d_N_writeOut_39 jw_k5 (Nat.le_of_ble_eq_true rfl) hj4 ?_
      refine jw_iload_n (i := 1) d_N_writeOut_40 rfl rfl ?_
      refine jw_icmp_ne (tgt := 48) d_N_writeOut_41 (by decide) (fun hc => ?_) (fun hc => ?_)
      · have h := h.1 hc
        refine jw_iconst (v := 0) d_N_writeOut_48 jc_i_0 ?_
        obtain ⟨j5, hj5, h⟩ := h
        refine jw_zast2 d_N_writeOut_49 hq (Nat.le_of_ble_eq_true rfl) hj5 jw_b0 ?_
        refine jw_aload_n (i := 2) d_N_writeOut_50 rfl rfl ?_
        refine jw_iload d_N_writeOut_51 rfl ?_
        obtain ⟨j6, hj6, h⟩ := h
        refine jw_zald2 d_N_writeOut_53 hq (Nat.le_of_ble_eq_true rfl) hj6 ?_
        refine jw_if_eq (tgt := 60) d_N_writeOut_54 (by decide) (fun hc => ?_) (fun hc => ?_)
        · have h := h.1 hc
          refine jw_iinc (d := 1) d_N_writeOut_60 rfl jc_i_1 (Nat.le_of_ble_eq_true rfl) ?_
          refine jw_goto (tgt := 5) d_N_writeOut_63 (by decide) ?_
          exact h
        · have h := h.2 hc
          refine jw_iinc (d := 1) d_N_writeOut_57 rfl jc_i_1 (Nat.le_of_ble_eq_true rfl) ?_
          refine jw_iinc (d := 1) d_N_writeOut_60 rfl jc_i_1 (Nat.le_of_ble_eq_true rfl) ?_
          refine jw_goto (tgt := 5) d_N_writeOut_63 (by decide) ?_
          exact h
      · have h := h.2 hc
        refine jw_iconst (v := 1) d_N_writeOut_44 jc_i_1 ?_
        refine jw_goto (tgt := 49) d_N_writeOut_45 (by decide) ?_
        obtain ⟨j7, hj7, h⟩ := h
        refine jw_zast2 d_N_writeOut_49 hq (Nat.le_of_ble_eq_true rfl) hj7 jw_b1 ?_
        refine jw_aload_n (i := 2) d_N_writeOut_50 rfl rfl ?_
        refine jw_iload d_N_writeOut_51 rfl ?_
        obtain ⟨j8, hj8, h⟩ := h
        refine jw_zald2 d_N_writeOut_53 hq (Nat.le_of_ble_eq_true rfl) hj8 ?_
        refine jw_if_eq (tgt := 60) d_N_writeOut_54 (by decide) (fun hc => ?_) (fun hc => ?_)
        · have h := h.1 hc
          refine jw_iinc (d := 1) d_N_writeOut_60 rfl jc_i_1 (Nat.le_of_ble_eq_true rfl) ?_
          refine jw_goto (tgt := 5) d_N_writeOut_63 (by decide) ?_
          exact h
        · have h := h.2 hc
          refine jw_iinc (d := 1) d_N_writeOut_57 rfl jc_i_1 (Nat.le_of_ble_eq_true rfl) ?_
          refine jw_iinc (d := 1) d_N_writeOut_60 rfl jc_i_1 (Nat.le_of_ble_eq_true rfl) ?_
          refine jw_goto (tgt := 5) d_N_writeOut_63 (by decide) ?_
          exact h
set_option maxRecDepth 100000 in
theorem e_N_writeOut {l : Launch} {G : jw_G} {A : Nat → Prop} {a : Nat} (ha : a < 5) {x1 : Int32} {q : Nat} (hq : jw_KT[q]? = some (2, 40, [])) {M : jw_Mem} {Q : Int32 → jw_Mem → Prop} (h : ∀ X : jw_X0, (∀ r M', Q r M' → jw_R l X (jw_g G) A f_N_writeOut r M') → jw_X l X (jw_g G) A f_N_writeOut 5 [some (jw_a G (10 + 3 * a)), some (.int x1), some (jw_a G q), some (.int 0), some (.int 0)] [] M) : jw_M l (jw_g G) A f_N_writeOut [jw_a G (10 + 3 * a), .int x1, jw_a G q] M Q := by
  refine jw_M_of (by decide) (Nat.le_of_ble_eq_true rfl) (by intro v hv; simp at hv; rcases hv with rfl | rfl | rfl <;> rfl) (fun X hR => ?_)
  exact k_N_writeOut_0 ha hq (h X (fun r M' q => hR r M' q (fun ty h0 => by cases h0; rfl)))
end
section
set_option maxRecDepth 100000 in
set_option maxHeartbeats 4000000 in
theorem k_C_isEmpty_0 {l : Launch} {X : jw_X0} {G : jw_G} {A : Nat → Prop} {a : Nat} (ha : a < 4) {M : jw_Mem} (h : ((¬ (M (26 + 2 * a) 1) = (-1) → jw_R l X (jw_g G) A f_C_isEmpty 0 M) ∧ ((M (26 + 2 * a) 1) = (-1) → jw_R l X (jw_g G) A f_C_isEmpty 1 M))) : jw_X l X (jw_g G) A f_C_isEmpty 0 [some (jw_a G (26 + 2 * a))] [] M := by
  refine jw_aload_n (i := 0) d_C_isEmpty_0 rfl rfl ?_
  refine jw_get (j := 1) (v := .int (M (26 + 2 * a) 1)) d_C_isEmpty_1 (jw_kC ha) jw_c_C jw_oc_C (Nat.le_of_ble_eq_true rfl) jw_fl_C_15 rfl rfl ?_
  refine jw_iconst (v := (-1)) d_C_isEmpty_4 jc_i_m1 ?_
  refine jw_icmp_ne (tgt := 12) d_C_isEmpty_5 (by decide) (fun hc => ?_) (fun hc => ?_)
  · have h := h.1 hc
    refine jw_iconst (v := 0) d_C_isEmpty_12 jc_i_0 ?_
    exact jw_ireturn d_C_isEmpty_13 rfl h
  · have h := h.2 hc
    refine jw_iconst (v := 1) d_C_isEmpty_8 jc_i_1 ?_
    refine jw_goto (tgt := 13) d_C_isEmpty_9 (by decide) ?_
    exact jw_ireturn d_C_isEmpty_13 rfl h
set_option maxRecDepth 100000 in
theorem e_C_isEmpty {l : Launch} {G : jw_G} {A : Nat → Prop} {a : Nat} (ha : a < 4) {M : jw_Mem} {Q : Int32 → jw_Mem → Prop} (h : ∀ X : jw_X0, (∀ r M', Q r M' → (r = 0 ∨ r = 1) → jw_R l X (jw_g G) A f_C_isEmpty r M') → ((¬ (M (26 + 2 * a) 1) = (-1) → jw_R l X (jw_g G) A f_C_isEmpty 0 M) ∧ ((M (26 + 2 * a) 1) = (-1) → jw_R l X (jw_g G) A f_C_isEmpty 1 M))) : jw_M l (jw_g G) A f_C_isEmpty [jw_a G (26 + 2 * a)] M Q := by
  refine jw_M_of (by decide) (Nat.le_of_ble_eq_true rfl) (by intro v hv; simp at hv; rcases hv with rfl <;> rfl) (fun X hR => ?_)
  exact k_C_isEmpty_0 ha (h X (fun r M' q hb => hR r M' q (fun ty h0 => by cases h0; exact jw_nb hb)))

set_option maxRecDepth 100000 in
set_option maxHeartbeats 4000000 in
theorem k_C_learn_0 {l : Launch} {X : jw_X0} {G : jw_G} {A : Nat → Prop} {a : Nat} (ha : a < 4) {x1 : Int32} {q : Nat} (hq : jw_KT[q]? = some (2, 40, [])) {M : jw_Mem} (h : jw_M l (jw_g G) A f_J_fill [jw_a G (27 + 2 * a), .int 0] (jw_U M (26 + 2 * a) 1 x1) (fun _ M1 => jw_X l X (jw_g G) A f_C_learn 16 [some (jw_a G (26 + 2 * a)), some (.int x1), some (jw_a G q), some (jw_a G 4), some (.int 0)] [] M1)) : jw_X l X (jw_g G) A f_C_learn 0 [some (jw_a G (26 + 2 * a)), some (.int x1), some (jw_a G q), some (jw_a G 4), none] [] M := by
  refine jw_aload_n (i := 0) d_C_learn_0 rfl rfl ?_
  refine jw_iload_n (i := 1) d_C_learn_1 rfl rfl ?_
  refine jw_put (j := 1) d_C_learn_2 (jw_kC ha) jw_c_C jw_oc_C (Nat.le_of_ble_eq_true rfl) jw_fl_C_15 rfl rfl rfl rfl ?_
  refine jw_aload_n (i := 0) d_C_learn_5 rfl rfl ?_
  refine jw_get (j := 0) (v := jw_a G (27 + 2 * a)) d_C_learn_6 (jw_kC ha) jw_c_C jw_oc_C (Nat.le_of_ble_eq_true rfl) jw_fl_C_9 rfl rfl ?_
  refine jw_iconst (v := 0) d_C_learn_9 jc_i_0 ?_
  refine jw_callS (As := [jw_a G (27 + 2 * a), .int 0]) (S := []) d_C_learn_10 jw_ml_C_19 jw_st_f_J_fill ⟨Nat.le_of_ble_eq_true rfl, Nat.le_of_ble_eq_true rfl⟩ rfl rfl (Nat.le_of_ble_eq_true rfl) (jw_M_mono h (fun r1 M1 h => ?_))
  refine jw_st (S' := []) rfl ?_
  refine jw_iconst (v := 0) d_C_learn_13 jc_i_0 ?_
  refine jw_istore d_C_learn_14 (Nat.le_of_ble_eq_true rfl) ?_
  exact h
set_option maxRecDepth 100000 in
set_option maxHeartbeats 4000000 in
theorem k_C_learn_16 {l : Launch} {X : jw_X0} {G : jw_G} {A : Nat → Prop} {a : Nat} (ha : a < 4) {q : Nat} (hq : jw_KT[q]? = some (2, 40, [])) {x1 x4 : Int32} {M : jw_Mem} (h : (((M 4 4) ≤ x4 → jw_R l X (jw_g G) A f_C_learn 0 M) ∧ (¬ (M 4 4) ≤ x4 → (∃ j1 : Nat, (j1 < 40 ∧ x4 = nI j1) ∧ (((M q j1) = 0 → jw_X l X (jw_g G) A f_C_learn 16 [some (jw_a G (26 + 2 * a)), some (.int x1), some (jw_a G q), some (jw_a G 4), some (.int (x4 + 1))] [] M) ∧ (¬ (M q j1) = 0 → jw_M l (jw_g G) A f_C_rise [jw_a G (26 + 2 * a), .int x4, jw_a G 4] M (fun _ M1 => jw_X l X (jw_g G) A f_C_learn 16 [some (jw_a G (26 + 2 * a)), some (.int x1), some (jw_a G q), some (jw_a G 4), some (.int (x4 + 1))] [] M1))))))) : jw_X l X (jw_g G) A f_C_learn 16 [some (jw_a G (26 + 2 * a)), some (.int x1), some (jw_a G q), some (jw_a G 4), some (.int x4)] [] M := by
  refine jw_iload d_C_learn_16 rfl ?_
  refine jw_aload_n (i := 3) d_C_learn_18 rfl rfl ?_
  refine jw_get (j := 4) (v := .int (M 4 4)) d_C_learn_19 jw_k4 jw_c_G jw_oc_G (Nat.le_of_ble_eq_true rfl) jw_fl_C_25 rfl rfl ?_
  refine jw_icmp_ge (tgt := 45) d_C_learn_22 (by decide) (fun hc => ?_) (fun hc => ?_)
  · have h := h.1 hc
    exact jw_return d_C_learn_45 rfl h
  · have h := h.2 hc
    refine jw_aload_n (i := 2) d_C_learn_25 rfl rfl ?_
    refine jw_iload d_C_learn_26 rfl ?_
    obtain ⟨j1, hj1, h⟩ := h
    refine jw_zald2 d_C_learn_28 hq (Nat.le_of_ble_eq_true rfl) hj1 ?_
    refine jw_if_eq (tgt := 39) d_C_learn_29 (by decide) (fun hc => ?_) (fun hc => ?_)
    · have h := h.1 hc
      refine jw_iinc (d := 1) d_C_learn_39 rfl jc_i_1 (Nat.le_of_ble_eq_true rfl) ?_
      refine jw_goto (tgt := 16) d_C_learn_42 (by decide) ?_
      exact h
    · have h := h.2 hc
      refine jw_aload_n (i := 0) d_C_learn_32 rfl rfl ?_
      refine jw_iload d_C_learn_33 rfl ?_
      refine jw_aload_n (i := 3) d_C_learn_35 rfl rfl ?_
      refine jw_callV (As := [.int x4, jw_a G 4]) (S := []) d_C_learn_36 (jw_kC ha) jw_c_C jw_ml_C_30 jw_in_f_C_rise jw_se_f_C_rise ⟨Nat.le_of_ble_eq_true rfl, Nat.le_of_ble_eq_true rfl⟩ rfl rfl (Nat.le_of_ble_eq_true rfl) (jw_M_mono h (fun r1 M1 h => ?_))
      refine jw_st (S' := []) rfl ?_
      refine jw_iinc (d := 1) d_C_learn_39 rfl jc_i_1 (Nat.le_of_ble_eq_true rfl) ?_
      refine jw_goto (tgt := 16) d_C_learn_42 (by decide) ?_
      exact h
set_option maxRecDepth 100000 in
theorem e_C_learn {l : Launch} {G : jw_G} {A : Nat → Prop} {a : Nat} (ha : a < 4) {x1 : Int32} {q : Nat} (hq : jw_KT[q]? = some (2, 40, [])) {M : jw_Mem} {Q : Int32 → jw_Mem → Prop} (h : ∀ X : jw_X0, (∀ M', Q 0 M' → jw_R l X (jw_g G) A f_C_learn 0 M') → jw_M l (jw_g G) A f_J_fill [jw_a G (27 + 2 * a), .int 0] (jw_U M (26 + 2 * a) 1 x1) (fun _ M1 => jw_X l X (jw_g G) A f_C_learn 16 [some (jw_a G (26 + 2 * a)), some (.int x1), some (jw_a G q), some (jw_a G 4), some (.int 0)] [] M1)) : jw_M l (jw_g G) A f_C_learn [jw_a G (26 + 2 * a), .int x1, jw_a G q, jw_a G 4] M Q := by
  refine jw_M_of (by decide) (Nat.le_of_ble_eq_true rfl) (by intro v hv; simp at hv; rcases hv with rfl | rfl | rfl | rfl <;> rfl) (fun X hR => ?_)
  exact k_C_learn_0 ha hq (h X (fun M' q => hR 0 M' q (fun ty h0 => nomatch h0)))

set_option maxRecDepth 100000 in
set_option maxHeartbeats 4000000 in
theorem k_C_rise_0 {l : Launch} {X : jw_X0} {G : jw_G} {A : Nat → Prop} {a : Nat} (ha : a < 4) {x1 : Int32} {M : jw_Mem} (h : jw_X l X (jw_g G) A f_C_rise 2 [some (jw_a G (26 + 2 * a)), some (.int x1), some (jw_a G 4), some (.int 0)] [] M) : jw_X l X (jw_g G) A f_C_rise 0 [some (jw_a G (26 + 2 * a)), some (.int x1), some (jw_a G 4), none] [] M := by
  refine jw_iconst (v := 0) d_C_rise_0 jc_i_0 ?_
  refine jw_istore_n (i := 3) d_C_rise_1 rfl (Nat.le_of_ble_eq_true rfl) ?_
  exact h
set_option maxRecDepth 100000 in
set_option maxHeartbeats 4000000 in
theorem k_C_rise_2 {l : Launch} {X : jw_X0} {G : jw_G} {A : Nat → Prop} {a : Nat} (ha : a < 4) {x1 x3 : Int32} {M : jw_Mem} (h : ((5 ≤ x3 → jw_R l X (jw_g G) A f_C_rise 0 M) ∧ (¬ 5 ≤ x3 → (∃ j1 : Nat, (j1 < 5 ∧ x3 = nI j1) ∧ jw_M l (jw_g G) A f_G_clockCount [jw_a G 4, .int x1, .int x3] M (fun r1 M1 => (∃ j2 : Nat, (j2 < 5 ∧ x3 = nI j2) ∧ jw_X l X (jw_g G) A f_C_rise 2 [some (jw_a G (26 + 2 * a)), some (.int x1), some (jw_a G 4), some (.int (x3 + 1))] [] (jw_U M1 (27 + 2 * a) j2 (if (M (27 + 2 * a) j1) < r1 then r1 else (M (27 + 2 * a) j1))))))))) : jw_X l X (jw_g G) A f_C_rise 2 [some (jw_a G (26 + 2 * a)), some (.int x1), some (jw_a G 4), some (.int x3)] [] M := by
  refine jw_iload_n (i := 3) d_C_rise_2 rfl rfl ?_
  refine jw_iconst (v := 5) d_C_rise_3 jc_i_5 ?_
  refine jw_icmp_ge (tgt := 34) d_C_rise_4 (by decide) (fun hc => ?_) (fun hc => ?_)
  · have h := h.1 hc
    exact jw_return d_C_rise_34 rfl h
  · have h := h.2 hc
    refine jw_aload_n (i := 0) d_C_rise_7 rfl rfl ?_
    refine jw_get (j := 0) (v := jw_a G (27 + 2 * a)) d_C_rise_8 (jw_kC ha) jw_c_C jw_oc_C (Nat.le_of_ble_eq_true rfl) jw_fl_C_9 rfl rfl ?_
    refine jw_iload_n (i := 3) d_C_rise_11 rfl rfl ?_
    refine jw_aload_n (i := 0) d_C_rise_12 rfl rfl ?_
    refine jw_get (j := 0) (v := jw_a G (27 + 2 * a)) d_C_rise_13 (jw_kC ha) jw_c_C jw_oc_C (Nat.le_of_ble_eq_true rfl) jw_fl_C_9 rfl rfl ?_
    refine jw_iload_n (i := 3) d_C_rise_16 rfl rfl ?_
    obtain ⟨j1, hj1, h⟩ := h
    refine jw_iald2 d_C_rise_17 (jw_kK ha) (Nat.le_of_ble_eq_true rfl) hj1 ?_
    refine jw_aload_n (i := 2) d_C_rise_18 rfl rfl ?_
    refine jw_iload_n (i := 1) d_C_rise_19 rfl rfl ?_
    refine jw_iload_n (i := 3) d_C_rise_20 rfl rfl ?_
    refine jw_callV (As := [.int x1, .int x3]) (S := [.int (M (27 + 2 * a) j1), .int x3, jw_a G (27 + 2 * a)]) d_C_rise_21 jw_k4 jw_c_G jw_ml_C_34 jw_in_f_G_clockCount jw_se_f_G_clockCount ⟨Nat.le_of_ble_eq_true rfl, Nat.le_of_ble_eq_true rfl⟩ rfl rfl (Nat.le_of_ble_eq_true rfl) (jw_M_mono h (fun r1 M1 h => ?_))
    refine jw_st (S' := [.int r1, .int (M (27 + 2 * a) j1), .int x3, jw_a G (27 + 2 * a)]) rfl ?_
    refine jw_mmax d_C_rise_24 jw_ml_C_38 jw_w_max2 jw_w_max3 jw_w_max4 ⟨Nat.le_of_ble_eq_true rfl, Nat.le_of_ble_eq_true rfl⟩ (Nat.le_of_ble_eq_true rfl) ?_
    obtain ⟨j2, hj2, h⟩ := h
    refine jw_iast2 d_C_rise_27 (jw_kK ha) (Nat.le_of_ble_eq_true rfl) hj2 ?_
    refine jw_iinc (d := 1) d_C_rise_28 rfl jc_i_1 (Nat.le_of_ble_eq_true rfl) ?_
    refine jw_goto (tgt := 2) d_C_rise_31 (by decide) ?_
    exact h
set_option maxRecDepth 100000 in
theorem e_C_rise {l : Launch} {G : jw_G} {A : Nat → Prop} {a : Nat} (ha : a < 4) {x1 : Int32} {M : jw_Mem} {Q : Int32 → jw_Mem → Prop} (h : ∀ X : jw_X0, (∀ M', Q 0 M' → jw_R l X (jw_g G) A f_C_rise 0 M') → jw_X l X (jw_g G) A f_C_rise 2 [some (jw_a G (26 + 2 * a)), some (.int x1), some (jw_a G 4), some (.int 0)] [] M) : jw_M l (jw_g G) A f_C_rise [jw_a G (26 + 2 * a), .int x1, jw_a G 4] M Q := by
  refine jw_M_of (by decide) (Nat.le_of_ble_eq_true rfl) (by intro v hv; simp at hv; rcases hv with rfl | rfl | rfl <;> rfl) (fun X hR => ?_)
  exact k_C_rise_0 ha (h X (fun M' q => hR 0 M' q (fun ty h0 => nomatch h0)))
end
