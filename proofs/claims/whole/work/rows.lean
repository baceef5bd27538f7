section
-- ===== PART A: goes FIRST, ahead of the names: the tables' words, and 'selects' of the private methods out of them =====
/-- a private method of a class that the tables say can be made, by its rows of tables_1 -/
def lw_okq (q : MethodName × Nat) : Prop := (q.1.cls ≠ "java/lang/invoke/MethodHandle" ∧ q.1.cls ≠ "java/lang/invoke/VarHandle") ∧ Cond.instantiable q.1.cls q.2 ∈ tables_1 ∧ Cond.privateMethod q.1 ∈ tables_1 ∧ Cond.instanceMethod q.1 ∈ tables_1
theorem lw_p0 : lw_okq (⟨"VersionRing", "mayKnow", "(II)Z"⟩, 16) := ⟨⟨by decide +kernel, by decide +kernel⟩, List.mem_of_getElem? (i := 11) (by decide +kernel), List.mem_of_getElem? (i := 209) (by decide +kernel), List.mem_of_getElem? (i := 210) (by decide +kernel)⟩
theorem lw_p1 : lw_okq (⟨"VersionRing", "aim", "(II)V"⟩, 16) := ⟨⟨by decide +kernel, by decide +kernel⟩, List.mem_of_getElem? (i := 11) (by decide +kernel), List.mem_of_getElem? (i := 220) (by decide +kernel), List.mem_of_getElem? (i := 221) (by decide +kernel)⟩
theorem lw_p2 : lw_okq (⟨"VersionRing$Ring", "isAmongFirst", "(II)Z"⟩, 5) := ⟨⟨by decide +kernel, by decide +kernel⟩, List.mem_of_getElem? (i := 22) (by decide +kernel), List.mem_of_getElem? (i := 228) (by decide +kernel), List.mem_of_getElem? (i := 229) (by decide +kernel)⟩
theorem lw_p3 : lw_okq (⟨"VersionRing", "reaches", "(II)Z"⟩, 16) := ⟨⟨by decide +kernel, by decide +kernel⟩, List.mem_of_getElem? (i := 11) (by decide +kernel), List.mem_of_getElem? (i := 233) (by decide +kernel), List.mem_of_getElem? (i := 234) (by decide +kernel)⟩
theorem lw_p4 : lw_okq (⟨"VersionRing$Log", "numberWritten", "(II)I"⟩, 5) := ⟨⟨by decide +kernel, by decide +kernel⟩, List.mem_of_getElem? (i := 53) (by decide +kernel), List.mem_of_getElem? (i := 246) (by decide +kernel), List.mem_of_getElem? (i := 247) (by decide +kernel)⟩
theorem lw_p5 : lw_okq (⟨"VersionRing", "sendToHomes", "(I)V"⟩, 16) := ⟨⟨by decide +kernel, by decide +kernel⟩, List.mem_of_getElem? (i := 11) (by decide +kernel), List.mem_of_getElem? (i := 250) (by decide +kernel), List.mem_of_getElem? (i := 251) (by decide +kernel)⟩
theorem lw_p6 : lw_okq (⟨"VersionRing$Node", "isPassed", "(I)Z"⟩, 4) := ⟨⟨by decide +kernel, by decide +kernel⟩, List.mem_of_getElem? (i := 82) (by decide +kernel), List.mem_of_getElem? (i := 258) (by decide +kernel), List.mem_of_getElem? (i := 259) (by decide +kernel)⟩
theorem lw_p7 : lw_okq (⟨"VersionRing$Node", "hasBeside", "(II)Z"⟩, 4) := ⟨⟨by decide +kernel, by decide +kernel⟩, List.mem_of_getElem? (i := 82) (by decide +kernel), List.mem_of_getElem? (i := 262) (by decide +kernel), List.mem_of_getElem? (i := 263) (by decide +kernel)⟩
theorem lw_p8 : lw_okq (⟨"VersionRing", "leaveHints", "(II)V"⟩, 16) := ⟨⟨by decide +kernel, by decide +kernel⟩, List.mem_of_getElem? (i := 11) (by decide +kernel), List.mem_of_getElem? (i := 274) (by decide +kernel), List.mem_of_getElem? (i := 275) (by decide +kernel)⟩
theorem lw_p9 : lw_okq (⟨"VersionRing", "lookAtTargets", "(I)V"⟩, 16) := ⟨⟨by decide +kernel, by decide +kernel⟩, List.mem_of_getElem? (i := 11) (by decide +kernel), List.mem_of_getElem? (i := 282) (by decide +kernel), List.mem_of_getElem? (i := 283) (by decide +kernel)⟩
theorem lw_p10 : lw_okq (⟨"VersionRing", "isAtSomeTarget", "(I)Z"⟩, 16) := ⟨⟨by decide +kernel, by decide +kernel⟩, List.mem_of_getElem? (i := 11) (by decide +kernel), List.mem_of_getElem? (i := 286) (by decide +kernel), List.mem_of_getElem? (i := 287) (by decide +kernel)⟩
theorem lw_p11 : lw_okq (⟨"VersionRing", "keepLatest", "()I"⟩, 16) := ⟨⟨by decide +kernel, by decide +kernel⟩, List.mem_of_getElem? (i := 11) (by decide +kernel), List.mem_of_getElem? (i := 294) (by decide +kernel), List.mem_of_getElem? (i := 295) (by decide +kernel)⟩
theorem lw_p12 : lw_okq (⟨"VersionRing", "isPassedBySeen", "(I)Z"⟩, 16) := ⟨⟨by decide +kernel, by decide +kernel⟩, List.mem_of_getElem? (i := 11) (by decide +kernel), List.mem_of_getElem? (i := 298) (by decide +kernel), List.mem_of_getElem? (i := 299) (by decide +kernel)⟩
theorem lw_p13 : lw_okq (⟨"VersionRing$Context", "rise", "(ILVersionRing$Log;)V"⟩, 2) := ⟨⟨by decide +kernel, by decide +kernel⟩, List.mem_of_getElem? (i := 107) (by decide +kernel), List.mem_of_getElem? (i := 308) (by decide +kernel), List.mem_of_getElem? (i := 309) (by decide +kernel)⟩
theorem lw_p14 : lw_okq (⟨"VersionRing", "handOverHints", "(I)I"⟩, 16) := ⟨⟨by decide +kernel, by decide +kernel⟩, List.mem_of_getElem? (i := 11) (by decide +kernel), List.mem_of_getElem? (i := 331) (by decide +kernel), List.mem_of_getElem? (i := 332) (by decide +kernel)⟩
theorem lw_p15 : lw_okq (⟨"VersionRing", "handOverKey", "(II)I"⟩, 16) := ⟨⟨by decide +kernel, by decide +kernel⟩, List.mem_of_getElem? (i := 11) (by decide +kernel), List.mem_of_getElem? (i := 335) (by decide +kernel), List.mem_of_getElem? (i := 336) (by decide +kernel)⟩
def lw_privs_1 : List (MethodName × Nat) := [(⟨"VersionRing", "mayKnow", "(II)Z"⟩, 16), (⟨"VersionRing", "aim", "(II)V"⟩, 16), (⟨"VersionRing$Ring", "isAmongFirst", "(II)Z"⟩, 5), (⟨"VersionRing", "reaches", "(II)Z"⟩, 16), (⟨"VersionRing$Log", "numberWritten", "(II)I"⟩, 5), (⟨"VersionRing", "sendToHomes", "(I)V"⟩, 16), (⟨"VersionRing$Node", "isPassed", "(I)Z"⟩, 4), (⟨"VersionRing$Node", "hasBeside", "(II)Z"⟩, 4), (⟨"VersionRing", "leaveHints", "(II)V"⟩, 16), (⟨"VersionRing", "lookAtTargets", "(I)V"⟩, 16), (⟨"VersionRing", "isAtSomeTarget", "(I)Z"⟩, 16), (⟨"VersionRing", "keepLatest", "()I"⟩, 16), (⟨"VersionRing", "isPassedBySeen", "(I)Z"⟩, 16), (⟨"VersionRing$Context", "rise", "(ILVersionRing$Log;)V"⟩, 2), (⟨"VersionRing", "handOverHints", "(I)I"⟩, 16), (⟨"VersionRing", "handOverKey", "(II)I"⟩, 16)]
theorem lw_r1 : ∀ q ∈ lw_privs_1, lw_okq q := List.forall_mem_cons.mpr ⟨lw_p0, List.forall_mem_cons.mpr ⟨lw_p1, List.forall_mem_cons.mpr ⟨lw_p2, List.forall_mem_cons.mpr ⟨lw_p3, List.forall_mem_cons.mpr ⟨lw_p4, List.forall_mem_cons.mpr ⟨lw_p5, List.forall_mem_cons.mpr ⟨lw_p6, List.forall_mem_cons.mpr ⟨lw_p7, List.forall_mem_cons.mpr ⟨lw_p8, List.forall_mem_cons.mpr ⟨lw_p9, List.forall_mem_cons.mpr ⟨lw_p10, List.forall_mem_cons.mpr ⟨lw_p11, List.forall_mem_cons.mpr ⟨lw_p12, List.forall_mem_cons.mpr ⟨lw_p13, List.forall_mem_cons.mpr ⟨lw_p14, List.forall_mem_cons.mpr ⟨lw_p15, fun _ h => absurd h List.not_mem_nil⟩⟩⟩⟩⟩⟩⟩⟩⟩⟩⟩⟩⟩⟩⟩⟩
theorem lw_p16 : lw_okq (⟨"VersionRing", "reachesAllHomes", "(I)Z"⟩, 16) := ⟨⟨by decide +kernel, by decide +kernel⟩, List.mem_of_getElem? (i := 11) (by decide +kernel), List.mem_of_getElem? (i := 347) (by decide +kernel), List.mem_of_getElem? (i := 348) (by decide +kernel)⟩
theorem lw_p17 : lw_okq (⟨"VersionRing", "share", "(III)Z"⟩, 16) := ⟨⟨by decide +kernel, by decide +kernel⟩, List.mem_of_getElem? (i := 11) (by decide +kernel), List.mem_of_getElem? (i := 359) (by decide +kernel), List.mem_of_getElem? (i := 360) (by decide +kernel)⟩
theorem lw_p18 : lw_okq (⟨"VersionRing", "differ", "(III)Z"⟩, 16) := ⟨⟨by decide +kernel, by decide +kernel⟩, List.mem_of_getElem? (i := 11) (by decide +kernel), List.mem_of_getElem? (i := 363) (by decide +kernel), List.mem_of_getElem? (i := 364) (by decide +kernel)⟩
theorem lw_p19 : lw_okq (⟨"VersionRing", "exchange", "(III)V"⟩, 16) := ⟨⟨by decide +kernel, by decide +kernel⟩, List.mem_of_getElem? (i := 11) (by decide +kernel), List.mem_of_getElem? (i := 367) (by decide +kernel), List.mem_of_getElem? (i := 368) (by decide +kernel)⟩
theorem lw_p20 : lw_okq (⟨"VersionRing", "countComparedParts", "()I"⟩, 16) := ⟨⟨by decide +kernel, by decide +kernel⟩, List.mem_of_getElem? (i := 11) (by decide +kernel), List.mem_of_getElem? (i := 371) (by decide +kernel), List.mem_of_getElem? (i := 372) (by decide +kernel)⟩
theorem lw_p21 : lw_okq (⟨"VersionRingModel", "list", "(I)V"⟩, 24) := ⟨⟨by decide +kernel, by decide +kernel⟩, List.mem_of_getElem? (i := 415) (by decide +kernel), List.mem_of_getElem? (i := 520) (by decide +kernel), List.mem_of_getElem? (i := 521) (by decide +kernel)⟩
theorem lw_p22 : lw_okq (⟨"VersionRingModel", "placeIn", "(I)I"⟩, 24) := ⟨⟨by decide +kernel, by decide +kernel⟩, List.mem_of_getElem? (i := 415) (by decide +kernel), List.mem_of_getElem? (i := 524) (by decide +kernel), List.mem_of_getElem? (i := 525) (by decide +kernel)⟩
theorem lw_p23 : lw_okq (⟨"VersionRingModel", "homes", "()I"⟩, 24) := ⟨⟨by decide +kernel, by decide +kernel⟩, List.mem_of_getElem? (i := 415) (by decide +kernel), List.mem_of_getElem? (i := 528) (by decide +kernel), List.mem_of_getElem? (i := 529) (by decide +kernel)⟩
theorem lw_p24 : lw_okq (⟨"VersionRingModel", "aim", "(II)V"⟩, 24) := ⟨⟨by decide +kernel, by decide +kernel⟩, List.mem_of_getElem? (i := 415) (by decide +kernel), List.mem_of_getElem? (i := 536) (by decide +kernel), List.mem_of_getElem? (i := 537) (by decide +kernel)⟩
theorem lw_p25 : lw_okq (⟨"VersionRingModel", "reaches", "(II)Z"⟩, 24) := ⟨⟨by decide +kernel, by decide +kernel⟩, List.mem_of_getElem? (i := 415) (by decide +kernel), List.mem_of_getElem? (i := 540) (by decide +kernel), List.mem_of_getElem? (i := 541) (by decide +kernel)⟩
theorem lw_p26 : lw_okq (⟨"VersionRingModel", "standsFor", "(II)I"⟩, 24) := ⟨⟨by decide +kernel, by decide +kernel⟩, List.mem_of_getElem? (i := 415) (by decide +kernel), List.mem_of_getElem? (i := 548) (by decide +kernel), List.mem_of_getElem? (i := 549) (by decide +kernel)⟩
theorem lw_p27 : lw_okq (⟨"VersionRingModel", "take", "(II)V"⟩, 24) := ⟨⟨by decide +kernel, by decide +kernel⟩, List.mem_of_getElem? (i := 415) (by decide +kernel), List.mem_of_getElem? (i := 552) (by decide +kernel), List.mem_of_getElem? (i := 553) (by decide +kernel)⟩
theorem lw_p28 : lw_okq (⟨"VersionRingModel", "below", "(II)Z"⟩, 24) := ⟨⟨by decide +kernel, by decide +kernel⟩, List.mem_of_getElem? (i := 415) (by decide +kernel), List.mem_of_getElem? (i := 556) (by decide +kernel), List.mem_of_getElem? (i := 557) (by decide +kernel)⟩
theorem lw_p29 : lw_okq (⟨"VersionRingModel", "isFound", "(II)Z"⟩, 24) := ⟨⟨by decide +kernel, by decide +kernel⟩, List.mem_of_getElem? (i := 415) (by decide +kernel), List.mem_of_getElem? (i := 564) (by decide +kernel), List.mem_of_getElem? (i := 565) (by decide +kernel)⟩
theorem lw_p30 : lw_okq (⟨"VersionRingModel", "shown", "(I)Z"⟩, 24) := ⟨⟨by decide +kernel, by decide +kernel⟩, List.mem_of_getElem? (i := 415) (by decide +kernel), List.mem_of_getElem? (i := 568) (by decide +kernel), List.mem_of_getElem? (i := 569) (by decide +kernel)⟩
theorem lw_p31 : lw_okq (⟨"VersionRingModel", "repair", "()V"⟩, 24) := ⟨⟨by decide +kernel, by decide +kernel⟩, List.mem_of_getElem? (i := 415) (by decide +kernel), List.mem_of_getElem? (i := 572) (by decide +kernel), List.mem_of_getElem? (i := 573) (by decide +kernel)⟩
def lw_privs_2 : List (MethodName × Nat) := [(⟨"VersionRing", "reachesAllHomes", "(I)Z"⟩, 16), (⟨"VersionRing", "share", "(III)Z"⟩, 16), (⟨"VersionRing", "differ", "(III)Z"⟩, 16), (⟨"VersionRing", "exchange", "(III)V"⟩, 16), (⟨"VersionRing", "countComparedParts", "()I"⟩, 16), (⟨"VersionRingModel", "list", "(I)V"⟩, 24), (⟨"VersionRingModel", "placeIn", "(I)I"⟩, 24), (⟨"VersionRingModel", "homes", "()I"⟩, 24), (⟨"VersionRingModel", "aim", "(II)V"⟩, 24), (⟨"VersionRingModel", "reaches", "(II)Z"⟩, 24), (⟨"VersionRingModel", "standsFor", "(II)I"⟩, 24), (⟨"VersionRingModel", "take", "(II)V"⟩, 24), (⟨"VersionRingModel", "below", "(II)Z"⟩, 24), (⟨"VersionRingModel", "isFound", "(II)Z"⟩, 24), (⟨"VersionRingModel", "shown", "(I)Z"⟩, 24), (⟨"VersionRingModel", "repair", "()V"⟩, 24)]
theorem lw_r2 : ∀ q ∈ lw_privs_2, lw_okq q := List.forall_mem_cons.mpr ⟨lw_p16, List.forall_mem_cons.mpr ⟨lw_p17, List.forall_mem_cons.mpr ⟨lw_p18, List.forall_mem_cons.mpr ⟨lw_p19, List.forall_mem_cons.mpr ⟨lw_p20, List.forall_mem_cons.mpr ⟨lw_p21, List.forall_mem_cons.mpr ⟨lw_p22, List.forall_mem_cons.mpr ⟨lw_p23, List.forall_mem_cons.mpr ⟨lw_p24, List.forall_mem_cons.mpr ⟨lw_p25, List.forall_mem_cons.mpr ⟨lw_p26, List.forall_mem_cons.mpr ⟨lw_p27, List.forall_mem_cons.mpr ⟨lw_p28, List.forall_mem_cons.mpr ⟨lw_p29, List.forall_mem_cons.mpr ⟨lw_p30, List.forall_mem_cons.mpr ⟨lw_p31, fun _ h => absurd h List.not_mem_nil⟩⟩⟩⟩⟩⟩⟩⟩⟩⟩⟩⟩⟩⟩⟩⟩
theorem lw_p32 : lw_okq (⟨"VersionRingModel", "moved", "(II)I"⟩, 24) := ⟨⟨by decide +kernel, by decide +kernel⟩, List.mem_of_getElem? (i := 415) (by decide +kernel), List.mem_of_getElem? (i := 588) (by decide +kernel), List.mem_of_getElem? (i := 589) (by decide +kernel)⟩
theorem lw_p33 : lw_okq (⟨"VersionRingModel", "isHome", "(II)Z"⟩, 24) := ⟨⟨by decide +kernel, by decide +kernel⟩, List.mem_of_getElem? (i := 415) (by decide +kernel), List.mem_of_getElem? (i := 596) (by decide +kernel), List.mem_of_getElem? (i := 597) (by decide +kernel)⟩
theorem lw_p34 : lw_okq (⟨"VersionRingModel", "differ", "(III)Z"⟩, 24) := ⟨⟨by decide +kernel, by decide +kernel⟩, List.mem_of_getElem? (i := 415) (by decide +kernel), List.mem_of_getElem? (i := 604) (by decide +kernel), List.mem_of_getElem? (i := 605) (by decide +kernel)⟩
theorem lw_p35 : lw_okq (⟨"VersionRingModel", "exchange", "(III)V"⟩, 24) := ⟨⟨by decide +kernel, by decide +kernel⟩, List.mem_of_getElem? (i := 415) (by decide +kernel), List.mem_of_getElem? (i := 608) (by decide +kernel), List.mem_of_getElem? (i := 609) (by decide +kernel)⟩
def lw_privs_3 : List (MethodName × Nat) := [(⟨"VersionRingModel", "moved", "(II)I"⟩, 24), (⟨"VersionRingModel", "isHome", "(II)Z"⟩, 24), (⟨"VersionRingModel", "differ", "(III)Z"⟩, 24), (⟨"VersionRingModel", "exchange", "(III)V"⟩, 24)]
theorem lw_r3 : ∀ q ∈ lw_privs_3, lw_okq q := List.forall_mem_cons.mpr ⟨lw_p32, List.forall_mem_cons.mpr ⟨lw_p33, List.forall_mem_cons.mpr ⟨lw_p34, List.forall_mem_cons.mpr ⟨lw_p35, fun _ h => absurd h List.not_mem_nil⟩⟩⟩⟩
def lw_privs : List (MethodName × Nat) := lw_privs_1 ++ (lw_privs_2 ++ (lw_privs_3))
def lw_tbl : List Cond := k2_sels lw_privs ++ tables_1
theorem lw_privs_ok : ∀ q ∈ lw_privs, lw_okq q := by
  show ∀ q ∈ lw_privs_1 ++ (lw_privs_2 ++ (lw_privs_3)), lw_okq q
  exact List.forall_mem_append.mpr ⟨lw_r1, List.forall_mem_append.mpr ⟨lw_r2, lw_r3⟩⟩
end
section
/-! Names, field tables, codes: by program (wip/whole/gen/names.py) out of the listing and the Statement. -/
def R_V : String := "VersionRing"
def T_V : u_T := fun k => match k with
  | 0 => ("VersionRing", "ring", "LVersionRing$Ring;", true)
  | 1 => ("VersionRing", "log", "LVersionRing$Log;", true)
  | 2 => ("VersionRing", "nodes", "[LVersionRing$Node;", true)
  | 3 => ("VersionRing", "cuts", "[Z", true)
  | 4 => ("VersionRing", "contexts", "[LVersionRing$Context;", true)
  | 5 => ("VersionRing", "readers", "I", true)
  | 6 => ("VersionRing", "writers", "I", true)
  | 7 => ("VersionRing", "latest", "[Z", true)
  | 8 => ("VersionRing", "repairs", "I", false)
  | 9 => ("VersionRing", "aims", "[I", true)
  | 10 => ("VersionRing", "aimed", "I", false)
  | 11 => ("VersionRing", "aimedHomes", "I", false)
  | 12 => ("VersionRing", "seen", "[Z", true)
  | 13 => ("VersionRing", "ones", "[Z", true)
  | 14 => ("VersionRing", "others", "[Z", true)
  | _ => ("VersionRing", "differs", "[Z", true)
def ty_V : Nat → FieldType := fun k => match k with
  | 0 => .object "VersionRing$Ring"
  | 1 => .object "VersionRing$Log"
  | 2 => .array (.object "VersionRing$Node")
  | 3 => .array .boolean
  | 4 => .array (.object "VersionRing$Context")
  | 5 => .int
  | 6 => .int
  | 7 => .array .boolean
  | 8 => .int
  | 9 => .array .int
  | 10 => .int
  | 11 => .int
  | 12 => .array .boolean
  | 13 => .array .boolean
  | 14 => .array .boolean
  | _ => .array .boolean
def R_R : String := "VersionRing$Ring"
def T_R : u_T := fun k => match k with
  | 0 => ("VersionRing$Ring", "most", "I", true)
  | 1 => ("VersionRing$Ring", "owners", "[I", true)
  | 2 => ("VersionRing$Ring", "list", "[I", true)
  | 3 => ("VersionRing$Ring", "listed", "I", false)
  | _ => ("VersionRing$Ring", "homes", "I", false)
def ty_R : Nat → FieldType := fun k => match k with
  | 0 => .int
  | 1 => .array .int
  | 2 => .array .int
  | 3 => .int
  | _ => .int
def R_G : String := "VersionRing$Log"
def T_G : u_T := fun k => match k with
  | 0 => ("VersionRing$Log", "keys", "[I", true)
  | 1 => ("VersionRing$Log", "values", "[I", true)
  | 2 => ("VersionRing$Log", "authors", "[I", true)
  | 3 => ("VersionRing$Log", "clocks", "[I", true)
  | _ => ("VersionRing$Log", "made", "I", false)
def ty_G : Nat → FieldType := fun k => match k with
  | 0 => .array .int
  | 1 => .array .int
  | 2 => .array .int
  | 3 => .array .int
  | _ => .int
def R_N : String := "VersionRing$Node"
def T_N : u_T := fun k => match k with
  | 0 => ("VersionRing$Node", "log", "LVersionRing$Log;", true)
  | 1 => ("VersionRing$Node", "has", "[Z", true)
  | 2 => ("VersionRing$Node", "hintFor", "[I", true)
  | _ => ("VersionRing$Node", "up", "Z", false)
def ty_N : Nat → FieldType := fun k => match k with
  | 0 => .object "VersionRing$Log"
  | 1 => .array .boolean
  | 2 => .array .int
  | _ => .boolean
def R_C : String := "VersionRing$Context"
def T_C : u_T := fun k => match k with
  | 0 => ("VersionRing$Context", "clock", "[I", true)
  | _ => ("VersionRing$Context", "key", "I", false)
def ty_C : Nat → FieldType := fun k => match k with
  | 0 => .array .int
  | _ => .int
def R_M : String := "VersionRingModel"
def T_M : u_T := fun k => match k with
  | 0 => ("VersionRingModel", "homesWanted", "I", true)
  | 1 => ("VersionRingModel", "readers", "I", true)
  | 2 => ("VersionRingModel", "writers", "I", true)
  | 3 => ("VersionRingModel", "down", "[Z", true)
  | 4 => ("VersionRingModel", "severed", "[Z", true)
  | 5 => ("VersionRingModel", "ring", "[I", true)
  | 6 => ("VersionRingModel", "made", "I", false)
  | 7 => ("VersionRingModel", "keyOf", "[I", true)
  | 8 => ("VersionRingModel", "valueOf", "[I", true)
  | 9 => ("VersionRingModel", "writer", "[I", true)
  | 10 => ("VersionRingModel", "clock", "[I", true)
  | 11 => ("VersionRingModel", "has", "[Z", true)
  | 12 => ("VersionRingModel", "hint", "[I", true)
  | 13 => ("VersionRingModel", "before", "[Z", true)
  | 14 => ("VersionRingModel", "contextKey", "[I", true)
  | 15 => ("VersionRingModel", "contextSet", "[Z", true)
  | 16 => ("VersionRingModel", "contextClock", "[I", true)
  | 17 => ("VersionRingModel", "lately", "[I", true)
  | 18 => ("VersionRingModel", "founds", "I", false)
  | 19 => ("VersionRingModel", "repairs", "I", false)
  | 20 => ("VersionRingModel", "row", "[I", true)
  | 21 => ("VersionRingModel", "rowSize", "I", false)
  | 22 => ("VersionRingModel", "aims", "[I", true)
  | _ => ("VersionRingModel", "aimCount", "I", false)
def ty_M : Nat → FieldType := fun k => match k with
  | 0 => .int
  | 1 => .int
  | 2 => .int
  | 3 => .array .boolean
  | 4 => .array .boolean
  | 5 => .array .int
  | 6 => .int
  | 7 => .array .int
  | 8 => .array .int
  | 9 => .array .int
  | 10 => .array .int
  | 11 => .array .boolean
  | 12 => .array .int
  | 13 => .array .boolean
  | 14 => .array .int
  | 15 => .array .boolean
  | 16 => .array .int
  | 17 => .array .int
  | 18 => .int
  | 19 => .int
  | 20 => .array .int
  | 21 => .int
  | 22 => .array .int
  | _ => .int
def R_L : String := "VersionRingLaw"
def R_J : String := "java/util/Arrays"
abbrev vwCl : List vw_C := [(R_V, T_V, 16), (R_R, T_R, 5), (R_G, T_G, 5), (R_N, T_N, 4), (R_C, T_C, 2), (R_M, T_M, 24)]
abbrev b_C_init : ByteArray := prog_2_method_1_code
def y_C_init : MethodName := ⟨R_C, "<init>", "()V"⟩
abbrev b_C_isEmpty : ByteArray := prog_2_method_2_code
def y_C_isEmpty : MethodName := ⟨R_C, "isEmpty", "()Z"⟩
abbrev b_C_learn : ByteArray := prog_2_method_3_code
def y_C_learn : MethodName := ⟨R_C, "learn", "(I[ZLVersionRing$Log;)V"⟩
abbrev b_C_rise : ByteArray := prog_2_method_4_code
def y_C_rise : MethodName := ⟨R_C, "rise", "(ILVersionRing$Log;)V"⟩
abbrev b_G_init : ByteArray := prog_3_method_1_code
def y_G_init : MethodName := ⟨R_G, "<init>", "()V"⟩
abbrev b_G_isMade : ByteArray := prog_3_method_2_code
def y_G_isMade : MethodName := ⟨R_G, "isMade", "(I)Z"⟩
abbrev b_G_clockCount : ByteArray := prog_3_method_3_code
def y_G_clockCount : MethodName := ⟨R_G, "clockCount", "(II)I"⟩
abbrev b_G_add : ByteArray := prog_3_method_4_code
def y_G_add : MethodName := ⟨R_G, "add", "(III[I)I"⟩
abbrev b_G_numberWritten : ByteArray := prog_3_method_5_code
def y_G_numberWritten : MethodName := ⟨R_G, "numberWritten", "(II)I"⟩
abbrev b_G_isAtOrBelow : ByteArray := prog_3_method_6_code
def y_G_isAtOrBelow : MethodName := ⟨R_G, "isAtOrBelow", "(II)Z"⟩
abbrev b_N_init : ByteArray := prog_4_method_1_code
def y_N_init : MethodName := ⟨R_N, "<init>", "(LVersionRing$Log;)V"⟩
abbrev b_N_hasHintOf : ByteArray := prog_4_method_2_code
def y_N_hasHintOf : MethodName := ⟨R_N, "hasHintOf", "(I)Z"⟩
abbrev b_N_take : ByteArray := prog_4_method_3_code
def y_N_take : MethodName := ⟨R_N, "take", "(I)Z"⟩
abbrev b_N_isPassed : ByteArray := prog_4_method_4_code
def y_N_isPassed : MethodName := ⟨R_N, "isPassed", "(I)Z"⟩
abbrev b_N_hasBeside : ByteArray := prog_4_method_5_code
def y_N_hasBeside : MethodName := ⟨R_N, "hasBeside", "(II)Z"⟩
abbrev b_N_takeAll : ByteArray := prog_4_method_6_code
def y_N_takeAll : MethodName := ⟨R_N, "takeAll", "([Z)I"⟩
abbrev b_N_dropAll : ByteArray := prog_4_method_7_code
def y_N_dropAll : MethodName := ⟨R_N, "dropAll", "([Z)V"⟩
abbrev b_N_writeOut : ByteArray := prog_4_method_8_code
def y_N_writeOut : MethodName := ⟨R_N, "writeOut", "(I[Z)I"⟩
abbrev b_R_init : ByteArray := prog_5_method_1_code
def y_R_init : MethodName := ⟨R_R, "<init>", "(I)V"⟩
abbrev b_R_lookUp : ByteArray := prog_5_method_2_code
def y_R_lookUp : MethodName := ⟨R_R, "lookUp", "(I)V"⟩
abbrev b_R_hasHome : ByteArray := prog_5_method_3_code
def y_R_hasHome : MethodName := ⟨R_R, "hasHome", "(I)Z"⟩
abbrev b_R_isAmongFirst : ByteArray := prog_5_method_4_code
def y_R_isAmongFirst : MethodName := ⟨R_R, "isAmongFirst", "(II)Z"⟩
abbrev b_V_init : ByteArray := prog_1_method_1_code
def y_V_init : MethodName := ⟨R_V, "<init>", "(III)V"⟩
abbrev b_V_token : ByteArray := prog_1_method_2_code
def y_V_token : MethodName := ⟨R_V, "token", "(II)Z"⟩
abbrev b_V_remove : ByteArray := prog_1_method_3_code
def y_V_remove : MethodName := ⟨R_V, "remove", "(I)Z"⟩
abbrev b_V_power : ByteArray := prog_1_method_4_code
def y_V_power : MethodName := ⟨R_V, "power", "(IZ)Z"⟩
abbrev b_V_cut : ByteArray := prog_1_method_5_code
def y_V_cut : MethodName := ⟨R_V, "cut", "(IIZ)Z"⟩
abbrev b_V_put : ByteArray := prog_1_method_6_code
def y_V_put : MethodName := ⟨R_V, "put", "(IIII)I"⟩
abbrev b_V_get : ByteArray := prog_1_method_7_code
def y_V_get : MethodName := ⟨R_V, "get", "(III)I"⟩
abbrev b_V_found : ByteArray := prog_1_method_8_code
def y_V_found : MethodName := ⟨R_V, "found", "(I)I"⟩
abbrev b_V_repaired : ByteArray := prog_1_method_9_code
def y_V_repaired : MethodName := ⟨R_V, "repaired", "()I"⟩
abbrev b_V_handOver : ByteArray := prog_1_method_10_code
def y_V_handOver : MethodName := ⟨R_V, "handOver", "(I)I"⟩
abbrev b_V_compare : ByteArray := prog_1_method_11_code
def y_V_compare : MethodName := ⟨R_V, "compare", "(II)I"⟩
abbrev b_V_home : ByteArray := prog_1_method_12_code
def y_V_home : MethodName := ⟨R_V, "home", "(II)I"⟩
abbrev b_V_targets : ByteArray := prog_1_method_13_code
def y_V_targets : MethodName := ⟨R_V, "targets", "(II)I"⟩
abbrev b_V_holds : ByteArray := prog_1_method_14_code
def y_V_holds : MethodName := ⟨R_V, "holds", "(II)I"⟩
abbrev b_V_count : ByteArray := prog_1_method_15_code
def y_V_count : MethodName := ⟨R_V, "count", "(II)I"⟩
abbrev b_V_hints : ByteArray := prog_1_method_16_code
def y_V_hints : MethodName := ⟨R_V, "hints", "(I)I"⟩
abbrev b_V_versions : ByteArray := prog_1_method_17_code
def y_V_versions : MethodName := ⟨R_V, "versions", "()I"⟩
abbrev b_V_version : ByteArray := prog_1_method_18_code
def y_V_version : MethodName := ⟨R_V, "version", "(II)I"⟩
abbrev b_V_context : ByteArray := prog_1_method_19_code
def y_V_context : MethodName := ⟨R_V, "context", "(II)I"⟩
abbrev b_V_isNode : ByteArray := prog_1_method_20_code
def y_V_isNode : MethodName := ⟨R_V, "isNode", "(I)Z"⟩
abbrev b_V_areTwoNodes : ByteArray := prog_1_method_21_code
def y_V_areTwoNodes : MethodName := ⟨R_V, "areTwoNodes", "(II)Z"⟩
abbrev b_V_isPosition : ByteArray := prog_1_method_22_code
def y_V_isPosition : MethodName := ⟨R_V, "isPosition", "(I)Z"⟩
abbrev b_V_isKey : ByteArray := prog_1_method_23_code
def y_V_isKey : MethodName := ⟨R_V, "isKey", "(I)Z"⟩
abbrev b_V_isContext : ByteArray := prog_1_method_24_code
def y_V_isContext : MethodName := ⟨R_V, "isContext", "(I)Z"⟩
abbrev b_V_mayKnow : ByteArray := prog_1_method_25_code
def y_V_mayKnow : MethodName := ⟨R_V, "mayKnow", "(II)Z"⟩
abbrev b_V_line : ByteArray := prog_1_method_26_code
def y_V_line : MethodName := ⟨R_V, "line", "(II)I"⟩
abbrev b_V_reaches : ByteArray := prog_1_method_27_code
def y_V_reaches : MethodName := ⟨R_V, "reaches", "(II)Z"⟩
abbrev b_V_aim : ByteArray := prog_1_method_28_code
def y_V_aim : MethodName := ⟨R_V, "aim", "(II)V"⟩
abbrev b_V_sendToHomes : ByteArray := prog_1_method_29_code
def y_V_sendToHomes : MethodName := ⟨R_V, "sendToHomes", "(I)V"⟩
abbrev b_V_leaveHints : ByteArray := prog_1_method_30_code
def y_V_leaveHints : MethodName := ⟨R_V, "leaveHints", "(II)V"⟩
abbrev b_V_lookAtTargets : ByteArray := prog_1_method_31_code
def y_V_lookAtTargets : MethodName := ⟨R_V, "lookAtTargets", "(I)V"⟩
abbrev b_V_isAtSomeTarget : ByteArray := prog_1_method_32_code
def y_V_isAtSomeTarget : MethodName := ⟨R_V, "isAtSomeTarget", "(I)Z"⟩
abbrev b_V_keepLatest : ByteArray := prog_1_method_33_code
def y_V_keepLatest : MethodName := ⟨R_V, "keepLatest", "()I"⟩
abbrev b_V_isPassedBySeen : ByteArray := prog_1_method_34_code
def y_V_isPassedBySeen : MethodName := ⟨R_V, "isPassedBySeen", "(I)Z"⟩
abbrev b_V_handOverHints : ByteArray := prog_1_method_35_code
def y_V_handOverHints : MethodName := ⟨R_V, "handOverHints", "(I)I"⟩
abbrev b_V_handOverKey : ByteArray := prog_1_method_36_code
def y_V_handOverKey : MethodName := ⟨R_V, "handOverKey", "(II)I"⟩
abbrev b_V_reachesAllHomes : ByteArray := prog_1_method_37_code
def y_V_reachesAllHomes : MethodName := ⟨R_V, "reachesAllHomes", "(I)Z"⟩
abbrev b_V_share : ByteArray := prog_1_method_38_code
def y_V_share : MethodName := ⟨R_V, "share", "(III)Z"⟩
abbrev b_V_differ : ByteArray := prog_1_method_39_code
def y_V_differ : MethodName := ⟨R_V, "differ", "(III)Z"⟩
abbrev b_V_exchange : ByteArray := prog_1_method_40_code
def y_V_exchange : MethodName := ⟨R_V, "exchange", "(III)V"⟩
abbrev b_V_countComparedParts : ByteArray := prog_1_method_41_code
def y_V_countComparedParts : MethodName := ⟨R_V, "countComparedParts", "()I"⟩
abbrev b_L_cell : ByteArray := method_2_code
def y_L_cell : MethodName := ⟨R_L, "cell", "([II)I"⟩
abbrev b_L_law : ByteArray := code
def y_L_law : MethodName := ⟨R_L, "law", "([I)Z"⟩
abbrev b_M_init : ByteArray := prog_7_method_1_code
def y_M_init : MethodName := ⟨R_M, "<init>", "(III)V"⟩
abbrev b_M_isNode : ByteArray := prog_7_method_2_code
def y_M_isNode : MethodName := ⟨R_M, "isNode", "(I)Z"⟩
abbrev b_M_isKey : ByteArray := prog_7_method_3_code
def y_M_isKey : MethodName := ⟨R_M, "isKey", "(I)Z"⟩
abbrev b_M_reaches : ByteArray := prog_7_method_4_code
def y_M_reaches : MethodName := ⟨R_M, "reaches", "(II)Z"⟩
abbrev b_M_token : ByteArray := prog_7_method_5_code
def y_M_token : MethodName := ⟨R_M, "token", "(II)Z"⟩
abbrev b_M_remove : ByteArray := prog_7_method_6_code
def y_M_remove : MethodName := ⟨R_M, "remove", "(I)Z"⟩
abbrev b_M_power : ByteArray := prog_7_method_7_code
def y_M_power : MethodName := ⟨R_M, "power", "(IZ)Z"⟩
abbrev b_M_cut : ByteArray := prog_7_method_8_code
def y_M_cut : MethodName := ⟨R_M, "cut", "(IIZ)Z"⟩
abbrev b_M_placeIn : ByteArray := prog_7_method_9_code
def y_M_placeIn : MethodName := ⟨R_M, "placeIn", "(I)I"⟩
abbrev b_M_list : ByteArray := prog_7_method_10_code
def y_M_list : MethodName := ⟨R_M, "list", "(I)V"⟩
abbrev b_M_homes : ByteArray := prog_7_method_11_code
def y_M_homes : MethodName := ⟨R_M, "homes", "()I"⟩
abbrev b_M_isHome : ByteArray := prog_7_method_12_code
def y_M_isHome : MethodName := ⟨R_M, "isHome", "(II)Z"⟩
abbrev b_M_home : ByteArray := prog_7_method_13_code
def y_M_home : MethodName := ⟨R_M, "home", "(II)I"⟩
abbrev b_M_aim : ByteArray := prog_7_method_14_code
def y_M_aim : MethodName := ⟨R_M, "aim", "(II)V"⟩
abbrev b_M_targets : ByteArray := prog_7_method_15_code
def y_M_targets : MethodName := ⟨R_M, "targets", "(II)I"⟩
abbrev b_M_standsFor : ByteArray := prog_7_method_16_code
def y_M_standsFor : MethodName := ⟨R_M, "standsFor", "(II)I"⟩
abbrev b_M_below : ByteArray := prog_7_method_17_code
def y_M_below : MethodName := ⟨R_M, "below", "(II)Z"⟩
abbrev b_M_take : ByteArray := prog_7_method_18_code
def y_M_take : MethodName := ⟨R_M, "take", "(II)V"⟩
abbrev b_M_put : ByteArray := prog_7_method_19_code
def y_M_put : MethodName := ⟨R_M, "put", "(IIII)I"⟩
abbrev b_M_shown : ByteArray := prog_7_method_20_code
def y_M_shown : MethodName := ⟨R_M, "shown", "(I)Z"⟩
abbrev b_M_isFound : ByteArray := prog_7_method_21_code
def y_M_isFound : MethodName := ⟨R_M, "isFound", "(II)Z"⟩
abbrev b_M_get : ByteArray := prog_7_method_22_code
def y_M_get : MethodName := ⟨R_M, "get", "(III)I"⟩
abbrev b_M_repair : ByteArray := prog_7_method_23_code
def y_M_repair : MethodName := ⟨R_M, "repair", "()V"⟩
abbrev b_M_found : ByteArray := prog_7_method_24_code
def y_M_found : MethodName := ⟨R_M, "found", "(I)I"⟩
abbrev b_M_repaired : ByteArray := prog_7_method_25_code
def y_M_repaired : MethodName := ⟨R_M, "repaired", "()I"⟩
abbrev b_M_handOver : ByteArray := prog_7_method_26_code
def y_M_handOver : MethodName := ⟨R_M, "handOver", "(I)I"⟩
abbrev b_M_moved : ByteArray := prog_7_method_27_code
def y_M_moved : MethodName := ⟨R_M, "moved", "(II)I"⟩
abbrev b_M_differ : ByteArray := prog_7_method_28_code
def y_M_differ : MethodName := ⟨R_M, "differ", "(III)Z"⟩
abbrev b_M_exchange : ByteArray := prog_7_method_29_code
def y_M_exchange : MethodName := ⟨R_M, "exchange", "(III)V"⟩
abbrev b_M_compare : ByteArray := prog_7_method_30_code
def y_M_compare : MethodName := ⟨R_M, "compare", "(II)I"⟩
abbrev b_M_holds : ByteArray := prog_7_method_31_code
def y_M_holds : MethodName := ⟨R_M, "holds", "(II)I"⟩
abbrev b_M_count : ByteArray := prog_7_method_32_code
def y_M_count : MethodName := ⟨R_M, "count", "(II)I"⟩
abbrev b_M_hints : ByteArray := prog_7_method_33_code
def y_M_hints : MethodName := ⟨R_M, "hints", "(I)I"⟩
abbrev b_M_versions : ByteArray := prog_7_method_34_code
def y_M_versions : MethodName := ⟨R_M, "versions", "()I"⟩
abbrev b_M_version : ByteArray := prog_7_method_35_code
def y_M_version : MethodName := ⟨R_M, "version", "(II)I"⟩
abbrev b_M_context : ByteArray := prog_7_method_36_code
def y_M_context : MethodName := ⟨R_M, "context", "(II)I"⟩
abbrev b_J_fill : ByteArray := prog_10_method_103_code
def y_J_fill : MethodName := ⟨R_J, "fill", "([II)V"⟩
end
section
/-! The frame of this proof: a method's walk over ONE world of cells (table kt: kind, size, references), whose ints are a function of cell and slot. jw_X: the machine comes from pc to the end; jw_R: an answer will do; jw_M: a method's contract. -/
abbrev jw_Mem : Type := Nat → Nat → Int32
/-- class numbers and slots; class number of each array cell; addresses; the table of the cells; the static row -/
abbrev jw_E : Type := va_G × (Nat → ClassId) × (Nat → Nat) × List (Nat × Nat × List (Option Nat)) × Option Nat
/-- a method: name, code, locals, answer, frames and words that its calls want -/
abbrev jw_F : Type := MethodName × ByteArray × Nat × Option FieldType × Nat × Nat
/-- where a walk stands: program, environment, room, state at the entry, method, arguments, frames below, method, code, cells and slots made, goal -/
abbrev jw_X0 : Type := Program × Env × Room × State × MethodId × Array Value × List Frame × Method × Code × Nat × Nat × (State → Prop)
def jw_ws : List Cond := lw_tbl.filter goodWord
theorem jw_in {w : Cond} (h : w ∈ lw_tbl) (g : goodWord w = true) : w ∈ jw_ws := List.mem_filter.mpr ⟨h, g⟩
def jw_ty : Nat → FieldType
  | 1 => .int
  | 2 => .boolean
  | 3 => .object "VersionRing$Node"
  | _ => .object "VersionRing$Context"
def jw_fv (E : jw_E) (μ : Nat → Int32) (j : Nat) : Option Nat → Value
  | some t => .ref (E.2.2.1 t)
  | none => .int (μ j)
def jw_fs (E : jw_E) (rs : List (Option Nat)) (μ : Nat → Int32) : List Value := rs.mapIdx (fun j r => jw_fv E μ j r)
def jw_cont (E : jw_E) (k : Nat) (μ : Nat → Int32) : va_E := match E.2.2.2.1[k]? with
  | some (0, ci, rs) => .inr (ci, jw_fs E rs μ)
  | some (1, n, _) => .inl (E.2.1 k, n, .inl μ)
  | some (2, n, _) => .inl (E.2.1 k, n, .inl μ)
  | some (_, n, rs) => .inl (E.2.1 k, n, .inr (.inr (.inr (.inr (fun i => (rs.getD i none).map E.2.2.1)))))
  | none => .inr (0, [])
def jw_W (E : jw_E) (M : jw_Mem) : va_W := (List.range E.2.2.2.1.length).map (fun k => (E.2.2.1 k, jw_cont E k (M k)))
def jw_U (M : jw_Mem) (k j : Nat) (x : Int32) : jw_Mem := fun q => if q = k then upd (M k) j x else M q
def jw_UA (M : jw_Mem) (k : Nat) (μ : Nat → Int32) : jw_Mem := fun q => if q = k then μ else M q
theorem jw_lt {E : jw_E} {k : Nat} {x : Nat × Nat × List (Option Nat)} (h : E.2.2.2.1[k]? = some x) : k < E.2.2.2.1.length := (List.getElem?_eq_some_iff.mp h).1
theorem jw_W_at {E : jw_E} {M : jw_Mem} {k : Nat} (hk : k < E.2.2.2.1.length) : (jw_W E M)[k]? = some (E.2.2.1 k, jw_cont E k (M k)) := by
  unfold jw_W
  rw [List.getElem?_map, List.getElem?_range hk]
  rfl
theorem jw_W_some {E : jw_E} {M : jw_Mem} {k : Nat} {q : Nat × va_E} (h : (jw_W E M)[k]? = some q) : k < E.2.2.2.1.length ∧ q = (E.2.2.1 k, jw_cont E k (M k)) := by
  have hl : k < (jw_W E M).length := (List.getElem?_eq_some_iff.mp h).1
  have hk : k < E.2.2.2.1.length := by
    unfold jw_W at hl
    rw [List.length_map, List.length_range] at hl
    exact hl
  rw [jw_W_at hk] at h
  exact ⟨hk, (Option.some.inj h).symm⟩
theorem jw_W_set {E : jw_E} {M : jw_Mem} {k : Nat} (μ : Nat → Int32) (hk : k < E.2.2.2.1.length) : (jw_W E M).set k (E.2.2.1 k, jw_cont E k μ) = jw_W E (jw_UA M k μ) := by
  apply List.ext_getElem?
  intro i
  by_cases hl : i < E.2.2.2.1.length
  · rw [jw_W_at hl]
    by_cases hi : i = k
    · subst hi
      rw [List.getElem?_set_self (by unfold jw_W; rw [List.length_map, List.length_range]; exact hl)]
      simp [jw_UA]
    · rw [List.getElem?_set_ne (Ne.symm hi), jw_W_at hl]
      simp [jw_UA, hi]
  · rw [List.getElem?_eq_none (by rw [List.length_set]; unfold jw_W; rw [List.length_map, List.length_range]; exact Nat.not_lt.mp hl), List.getElem?_eq_none (by unfold jw_W; rw [List.length_map, List.length_range]; exact Nat.not_lt.mp hl)]
theorem jw_U_eq (M : jw_Mem) (k j : Nat) (x : Int32) : jw_UA M k (upd (M k) j x) = jw_U M k j x := rfl
/-- what the tables say of the classes and of the arrays' classes -/
def jw_K (E : jw_E) (U : State) : Prop := (∀ (c : Nat) (q : vw_C), vwCl[c]? = some q → u_Kn U q.1 q.2.1 q.2.2 (E.1.1 c) (E.1.2 c)) ∧ ∀ (k kd n : Nat) (rs : List (Option Nat)), E.2.2.2.1[k]? = some (kd, n, rs) → kd ≠ 0 → ArrOfT U (E.2.1 k) (jw_ty kd) ∧ va_RA U (E.2.1 k) (jw_ty kd)
theorem jw_K_moved {E : jw_E} {u U : State} (hvm : u.vm.Alike U.vm) (h : jw_K E u) : jw_K E U := ⟨fun c q hq => u_Kn_moved hvm (h.1 c q hq), fun k kd n rs hk h0 => ⟨arrOfT_moved hvm (h.2 k kd n rs hk h0).1, (h.2 k kd n rs hk h0).2.moved hvm⟩⟩
theorem jw_K_0 {E : jw_E} {U : State} (h : jw_K E U) : va_K E.1 vwCl [] U := ⟨h.1, fun i q hi => by simp at hi⟩
theorem jw_K_1 {E : jw_E} {U : State} {k kd n : Nat} {rs : List (Option Nat)} (h : jw_K E U) (hk : E.2.2.2.1[k]? = some (kd, n, rs)) (h0 : kd ≠ 0) : va_K E.1 vwCl [(E.2.1 k, jw_ty kd)] U := by
  refine ⟨h.1, fun i q hi => ?_⟩
  cases i with
  | zero =>
    simp at hi
    subst hi
    exact h.2 k kd n rs hk h0
  | succ i => simp at hi
theorem jw_K_2 {E : jw_E} {U : State} {k kd n k2 kd2 n2 : Nat} {rs rs2 : List (Option Nat)} (h : jw_K E U) (hk : E.2.2.2.1[k]? = some (kd, n, rs)) (h0 : kd ≠ 0) (hk2 : E.2.2.2.1[k2]? = some (kd2, n2, rs2)) (h02 : kd2 ≠ 0) : va_K E.1 vwCl [(E.2.1 k, jw_ty kd), (E.2.1 k2, jw_ty kd2)] U := by
  have h1 := (jw_K_1 h hk h0).app (jw_K_1 h hk2 h02)
  exact h1
/-- the static row of five zeros -/
def jw_Z (E : jw_E) (A : Nat → Prop) (U : State) (H : Heap) : Prop := ∀ t, E.2.2.2.2 = some t → va_Z "VersionRing" "NOTHING_KNOWN" "[I" (.ref t) A U H ∧ va_T .int t 5 (fun _ => .int 0) A U H
theorem jw_Z_moved {E : jw_E} {A : Nat → Prop} {u U : State} {H : Heap} (hvm : u.vm.Alike U.vm) (h : jw_Z E A u H) : jw_Z E A U H := fun t ht => ⟨(h t ht).1.moved hvm, (h t ht).2.moved hvm⟩
theorem jw_Z_kept {E : jw_E} {A : Nat → Prop} {U : State} {H H1 : Heap} (h : jw_Z E A U H) (hq : ∀ a : Nat, a < H.size → ¬ A a → H1[a]? = H[a]?) : jw_Z E A U H1 := fun t ht => ⟨(h t ht).1.kept hq, (h t ht).2.kept hq⟩
/-- the cells are apart, and the method may change them -/
def jw_D (E : jw_E) (A : Nat → Prop) : Prop := (∀ i j, i < E.2.2.2.1.length → j < E.2.2.2.1.length → E.2.2.1 i = E.2.2.1 j → i = j) ∧ ∀ k, k < E.2.2.2.1.length → A (E.2.2.1 k)
theorem jw_D_va {E : jw_E} {A : Nat → Prop} (h : jw_D E A) (M : jw_Mem) : va_D A (jw_W E M) := by
  refine ⟨fun i j x y hi hj hxy => ?_, fun k q hk => ?_⟩
  · obtain ⟨a1, rfl⟩ := jw_W_some hi
    obtain ⟨a2, rfl⟩ := jw_W_some hj
    exact h.1 i j a1 a2 hxy
  · obtain ⟨a1, rfl⟩ := jw_W_some hk
    exact h.2 k a1
def jw_S (E : jw_E) (A : Nat → Prop) (U : State) : Prop := jw_K E U ∧ jw_Z E A U U.heap ∧ jw_D E A
/-- locals: by their numbers; none: nothing is known -/
def jw_l (ls : Array Slot) (nL : Nat) (L : List (Option Value)) : Prop := ls.size = nL ∧ lv_wf ls ∧ ∀ (i : Nat) (v : Value), L[i]? = some (some v) → ls[i]? = some (.val v) ∧ v.category = 1
def jw_pr1 (L : List (Option Value)) (i : Nat) : Option (Nat × Value) := match L[i]? with
  | some (some v) => some (i, v)
  | _ => none
def jw_pr (L : List (Option Value)) : List (Nat × Value) := (List.range L.length).filterMap (jw_pr1 L)
theorem jw_mem_pr {L : List (Option Value)} {i : Nat} {v : Value} (h : L[i]? = some (some v)) : (i, v) ∈ jw_pr L := List.mem_filterMap.mpr ⟨i, List.mem_range.mpr (List.getElem?_eq_some_iff.mp h).1, by unfold jw_pr1; rw [h]⟩
theorem jw_of_pr {L : List (Option Value)} {q : Nat × Value} (h : q ∈ jw_pr L) : L[q.1]? = some (some q.2) := by
  obtain ⟨i, -, hi⟩ := List.mem_filterMap.mp h
  unfold jw_pr1 at hi
  split at hi
  · rename_i v hv
    cases hi
    exact hv
  · cases hi
theorem jw_l_has {ls : Array Slot} {nL : Nat} {L : List (Option Value)} (h : jw_l ls nL L) : lv_has ls nL (jw_pr L) := ⟨h.1, h.2.1, fun q hq => (h.2.2 _ _ (jw_of_pr hq)).1⟩
theorem jw_l_set {ls ls' : Array Slot} {nL i : Nat} {v : Value} {L : List (Option Value)} (h : jw_l ls nL L) (hc : v.category = 1) (h' : lv_has ls' nL ((i, v) :: (jw_pr L).filter (fun q => !(q.1 == i) && !(q.1 + 1 == i && q.2.category == 2)))) : jw_l ls' nL (L.set i (some v)) := by
  refine ⟨h'.1, h'.2.1, fun j w hj => ?_⟩
  by_cases e : j = i
  · subst e
    have hl : j < (L.set j (some v)).length := (List.getElem?_eq_some_iff.mp hj).1
    rw [List.length_set] at hl
    rw [List.getElem?_set_self hl] at hj
    cases hj
    exact ⟨h'.2.2 (j, v) List.mem_cons_self, hc⟩
  · rw [List.getElem?_set_ne (Ne.symm e)] at hj
    have hw := (h.2.2 j w hj).2
    refine ⟨h'.2.2 (j, w) (List.mem_cons_of_mem _ (List.mem_filter.mpr ⟨jw_mem_pr hj, ?_⟩)), hw⟩
    simp [e, hw]
/-- what holds along a walk of f -/
def jw_C (E : jw_E) (A : Nat → Prop) (f : jw_F) (p : Program) (R : Room) (s : State) (m : MethodId) (args : Array Value) (meth : Method) (c : Code) (cells slots : Nat) : Prop :=
  p.tables.exec = Jvm.exec ∧ c.code = f.2.1 ∧ meth.sig.returnType = f.2.2.2.1 ∧ c.maxLocals = f.2.2.1 ∧ s.vm.findClass f.1.cls = some m.cls ∧ (∀ w ∈ jw_ws, w.before args s = true) ∧ meth.locks = false ∧ jw_S E A s ∧ (f.2.2.2.2.1 ≤ R.frames ∧ f.2.2.2.2.2 ≤ R.locals ∧ cells ≤ R.cells ∧ slots ≤ R.slots)
/-- the walk: at pc, with locals L, stack S, ints M -/
def jw_X (l : Launch) (X : jw_X0) (E : jw_E) (A : Nat → Prop) (f : jw_F) (pc : Nat) (L : List (Option Value)) (S : List Value) (M : jw_Mem) : Prop := match X with
  | (p, e, R, s, m, args, below, meth, c, cells, slots, Q) => jw_C E A f p R s m args meth c cells slots → ∀ (H : Heap) (locs : List Loc) (ls : Array Slot), va_P E.1 vwCl (jw_W E M) H → va_S A s.heap H locs → jw_l ls f.2.2.1 L → W p l e R s m args below meth c H locs cells slots Q (F0 m pc ls S)
/-- an answer r, with the ints M, will do -/
def jw_R (l : Launch) (X : jw_X0) (E : jw_E) (A : Nat → Prop) (f : jw_F) (r : Int32) (M : jw_Mem) : Prop := match X with
  | (p, e, R, s, m, args, below, meth, c, cells, slots, Q) => jw_C E A f p R s m args meth c cells slots → ∀ (H : Heap) (locs : List Loc) (pc : Nat) (ls : Array Slot), va_P E.1 vwCl (jw_W E M) H → va_S A s.heap H locs → (f.2.2.2.1 = none → r = 0 → decode f.2.1 pc = .ok (.return_, 1) → W p l e R s m args below meth c H locs cells slots Q (F0 m pc ls [])) ∧ (∀ ty, f.2.2.2.1 = some ty → decode f.2.1 pc = .ok (.ireturn, 1) → W p l e R s m args below meth c H locs cells slots Q (F0 m pc ls [.int r]))
def jw_rm (f : jw_F) : Room := { frames := f.2.2.2.2.1, cells := 0, slots := 0, locals := f.2.2.2.2.2 }
def jw_w (f : jw_F) : List Cond := .code f.1 f.2.1 f.2.2.1 f.2.2.2.1 :: jw_ws
def jw_B (E : jw_E) (M : jw_Mem) (t : State) : Prop := va_P E.1 vwCl (jw_W E M) t.heap
def jw_Q (E : jw_E) (A : Nat → Prop) (ret : Option FieldType) (Q : Int32 → jw_Mem → Prop) : Array Value → State → Outcome → State → Prop := match ret with
  | none => va_Qv (fun M => Q 0 M) (jw_B E) A
  | some _ => va_Qi Q (jw_B E) A
def jw_I (E : jw_E) (A : Nat → Prop) (M : jw_Mem) (U : State) : Prop := va_P E.1 vwCl (jw_W E M) U.heap ∧ jw_S E A U
/-- the contract of f, goal first: called with As at ints M it comes back with an answer and ints of which Q holds -/
def jw_M (l : Launch) (E : jw_E) (A : Nat → Prop) (f : jw_F) (As : List Value) (M : jw_Mem) (Q : Int32 → jw_Mem → Prop) : Prop := Met l f.1 (jw_w f) (jw_rm f) (va_Pc As (jw_I E A M)) (jw_Q E A f.2.2.2.1 Q) 0 0 A
theorem jw_M_mono {l : Launch} {E : jw_E} {A : Nat → Prop} {f : jw_F} {As : List Value} {M : jw_Mem} {Q Q' : Int32 → jw_Mem → Prop} (h : jw_M l E A f As M Q) (hq : ∀ r M', Q r M' → Q' r M') : jw_M l E A f As M Q' := by
  intro p e ha hc hk s m args below hf happ hP hK
  obtain ⟨n, o, h1, h2, h3, hQ, hrest⟩ := h p e ha hc hk s m args below hf happ hP hK
  refine ⟨n, o, h1, h2, h3, ?_, hrest⟩
  obtain ⟨y, bytes, maxL, ret, dep, loc⟩ := f
  cases ret with
  | none =>
    obtain ⟨⟨u, e1, e2, e3⟩, e4⟩ := hQ
    exact ⟨⟨u, e1, hq _ _ e2, e3⟩, e4⟩
  | some ty =>
    obtain ⟨⟨r, u, e1, e2, e3⟩, e4⟩ := hQ
    exact ⟨⟨r, u, e1, hq _ _ e2, e3⟩, e4⟩
theorem jw_sl_len : ∀ (vs : List Value), (∀ v ∈ vs, v.category = 1) → (lg_sl vs).length = vs.length
  | [], _ => rfl
  | v :: t, h => by
    have h1 : v.category = 1 := h v List.mem_cons_self
    have h2 := jw_sl_len t (fun w hw => h w (List.mem_cons_of_mem _ hw))
    unfold lg_sl at h2 ⊢
    rw [List.flatMap_cons, List.length_append, h2, if_neg (by omega)]
    simp
    omega
theorem jw_args_in : ∀ (vs : List Value) (i k : Nat) (v : Value), (∀ v ∈ vs, v.category = 1) → vs[k]? = some v → (i + k, v) ∈ lv_args i vs
  | [], i, k, v, _, h => by simp at h
  | a :: t, i, k, v, hc, h => by
    have h1 : a.category = 1 := hc a List.mem_cons_self
    unfold lv_args
    rw [if_neg (by omega)]
    cases k with
    | zero =>
      simp at h
      subst h
      exact List.mem_cons_self
    | succ k =>
      rw [List.getElem?_cons_succ] at h
      have := jw_args_in t (i + 1) k v (fun w hw => hc w (List.mem_cons_of_mem _ hw)) h
      rw [show i + (k + 1) = i + 1 + k by omega]
      exact List.mem_cons_of_mem _ this
/-- a contract out of a walk of the body -/
theorem jw_M_of {l : Launch} {E : jw_E} {A : Nat → Prop} {f : jw_F} {As : List Value} {M : jw_Mem} {Q : Int32 → jw_Mem → Prop} (hy : plainName f.1.cls = true) (hlen : As.length ≤ f.2.2.1) (hcat : ∀ v ∈ As, v.category = 1)
    (h : ∀ X, (∀ r M', Q r M' → (∀ ty, f.2.2.2.1 = some ty → narrow ty (.int r) = .int r) → jw_R l X E A f r M') → jw_X l X E A f 0 (As.map some ++ List.replicate (f.2.2.1 - As.length) none) [] M) : jw_M l E A f As M Q := by
  refine Met.ofW (cc := f.2.1) (maxL := f.2.2.1) (ret := f.2.2.2.1) hy rfl ?_
  intro p e s m args below meth c s₁ B hml hv
  obtain ⟨rfl, hP, hSx⟩ := hv
  have hts := atoms_spec (ws := jw_w f) B.pre
  have hown : s.vm.findClass f.1.cls = some m.cls := findClass_of_methodNamed B.named
  have hl := lv_entry As (n := f.2.2.1) (by rw [jw_sl_len As hcat]; exact hlen)
  rw [lg_entry_eq]
  generalize (lg_sl As ++ List.replicate (f.2.2.1 - (lg_sl As).length) Slot.unset).toArray = ls at hl ⊢
  have hl' : jw_l ls f.2.2.1 (As.map some ++ List.replicate (f.2.2.1 - As.length) none) := by
    refine ⟨hl.1, hl.2.1, fun i v hi => ?_⟩
    have hi2 : As[i]? = some v := by
      by_cases h1 : i < (As.map some).length
      · rw [List.getElem?_append_left h1, List.getElem?_map] at hi
        cases h2 : As[i]? with
        | none => rw [h2] at hi; cases hi
        | some w => rw [h2] at hi; cases hi; rfl
      · rw [List.getElem?_append_right (Nat.not_lt.mp h1)] at hi
        have h2 := List.mem_of_getElem? hi
        have h3 := List.eq_of_mem_replicate h2
        cases h3
    refine ⟨?_, hcat v (List.mem_of_getElem? hi2)⟩
    have h4 := hl.2.2 (i, v) (by have := jw_args_in As 0 i v hcat hi2; rwa [Nat.zero_add] at this)
    exact h4
  have C : jw_C E A f p (headSpec (jw_w f) (jw_rm f)).room s m As.toArray meth c 0 0 := ⟨B.exec, B.bytes, B.returns, hml, hown, fun w hw => hts w (List.mem_cons_of_mem _ hw), B.notSynchronized, hSx, Nat.le_refl _, Nat.le_refl _, Nat.le_refl _, Nat.le_refl _⟩
  refine h (p, e, (headSpec (jw_w f) (jw_rm f)).room, s, m, As.toArray, below, meth, c, 0, 0, MQ below (jw_Q E A f.2.2.2.1 Q) As.toArray s 0 0 A) ?_ C s.heap [] ls hP va_S.rf hl'
  intro r M' hq hn C' H locs pc ls' hP' hS'
  refine ⟨fun h0 hr hd => ?_, fun ty h0 hd => ?_⟩
  · subst hr
    exact W.vret (Qc := jw_Q E A f.2.2.2.1 Q) C'.1 C'.2.1 (C'.2.2.1.trans h0) (fun t ht hW => by
      rw [h0]
      exact ⟨⟨M', rfl, hq, by show va_P _ _ _ t.heap; rw [ht]; exact hP'⟩, hS'.F ht⟩) hS'.2.2 hd C'.2.2.2.2.2.2.1
  · exact W.zret (Qc := jw_Q E A f.2.2.2.1 Q) C'.1 C'.2.1 (C'.2.2.1.trans h0) (hn ty h0) (fun t ht hW => by
      rw [h0]
      exact ⟨⟨r, M', rfl, hq, by show va_P _ _ _ t.heap; rw [ht]; exact hP'⟩, hS'.F ht⟩) hS'.2.2 hd C'.2.2.2.2.2.2.1
end
section
/-! Rules of jw_X: an instruction each. -/
section JR
variable {l : Launch} {X : jw_X0} {E : jw_E} {A : Nat → Prop} {f : jw_F} {pc : Nat} {L : List (Option Value)} {S : List Value} {M : jw_Mem}
theorem jw_iconst {n : Int} {v : Int32} (hd : decode f.2.1 pc = .ok (.iconst n, 1)) (hv : Int32.ofInt n = v) (h : jw_X l X E A f (pc + 1) L (.int v :: S) M) : jw_X l X E A f pc L S M := by
  obtain ⟨p, e, R, s, m, args, below, meth, c, cells, slots, Q⟩ := X
  intro C H locs ls hP hS hl
  exact lv_iconst C.1 C.2.1 hd hv (h C H locs ls hP hS hl)
theorem jw_bipush {n : Int} {v : Int32} (hd : decode f.2.1 pc = .ok (.bipush n, 2)) (hv : (Int8.ofInt n).toInt32 = v) (h : jw_X l X E A f (pc + 2) L (.int v :: S) M) : jw_X l X E A f pc L S M := by
  obtain ⟨p, e, R, s, m, args, below, meth, c, cells, slots, Q⟩ := X
  intro C H locs ls hP hS hl
  exact lv_bipush C.1 C.2.1 hd hv (h C H locs ls hP hS hl)
theorem jw_sipush {n : Int} {v : Int32} (hd : decode f.2.1 pc = .ok (.sipush n, 3)) (hv : (Int16.ofInt n).toInt32 = v) (h : jw_X l X E A f (pc + 3) L (.int v :: S) M) : jw_X l X E A f pc L S M := by
  obtain ⟨p, e, R, s, m, args, below, meth, c, cells, slots, Q⟩ := X
  intro C H locs ls hP hS hl
  exact lv_sipush C.1 C.2.1 hd hv (h C H locs ls hP hS hl)
theorem jw_iload_n {k : Fin 4} {i : Nat} {x : Int32} (hd : decode f.2.1 pc = .ok (.iload_n k, 1)) (hi : (k : Nat) = i) (hx : L[i]? = some (some (.int x))) (h : jw_X l X E A f (pc + 1) L (.int x :: S) M) : jw_X l X E A f pc L S M := by
  obtain ⟨p, e, R, s, m, args, below, meth, c, cells, slots, Q⟩ := X
  intro C H locs ls hP hS hl
  exact lv_iload_n C.1 C.2.1 hd hi (hl.2.2 _ _ hx).1 (h C H locs ls hP hS hl)
theorem jw_iload {i : Nat} {x : Int32} (hd : decode f.2.1 pc = .ok (.iload i, 2)) (hx : L[i]? = some (some (.int x))) (h : jw_X l X E A f (pc + 2) L (.int x :: S) M) : jw_X l X E A f pc L S M := by
  obtain ⟨p, e, R, s, m, args, below, meth, c, cells, slots, Q⟩ := X
  intro C H locs ls hP hS hl
  exact lv_iload C.1 C.2.1 hd (hl.2.2 _ _ hx).1 (h C H locs ls hP hS hl)
theorem jw_istore_n {k : Fin 4} {i : Nat} {x : Int32} (hd : decode f.2.1 pc = .ok (.istore_n k, 1)) (hi : (k : Nat) = i) (hn : i < f.2.2.1) (h : jw_X l X E A f (pc + 1) (L.set i (some (.int x))) S M) : jw_X l X E A f pc L (.int x :: S) M := by
  obtain ⟨p, e, R, s, m, args, below, meth, c, cells, slots, Q⟩ := X
  intro C H locs ls hP hS hl
  exact lv_istore_n C.1 C.2.1 hd hi (jw_l_has hl) hn rfl (fun ls' hl' => h C H locs ls' hP hS (jw_l_set hl rfl hl'))
theorem jw_istore {i : Nat} {x : Int32} (hd : decode f.2.1 pc = .ok (.istore i, 2)) (hn : i < f.2.2.1) (h : jw_X l X E A f (pc + 2) (L.set i (some (.int x))) S M) : jw_X l X E A f pc L (.int x :: S) M := by
  obtain ⟨p, e, R, s, m, args, below, meth, c, cells, slots, Q⟩ := X
  intro C H locs ls hP hS hl
  exact lv_istore C.1 C.2.1 hd (jw_l_has hl) hn rfl (fun ls' hl' => h C H locs ls' hP hS (jw_l_set hl rfl hl'))
theorem jw_aload_n {k : Fin 4} {i : Nat} {x : Nat} (hd : decode f.2.1 pc = .ok (.aload_n k, 1)) (hi : (k : Nat) = i) (hx : L[i]? = some (some (.ref x))) (h : jw_X l X E A f (pc + 1) L (.ref x :: S) M) : jw_X l X E A f pc L S M := by
  obtain ⟨p, e, R, s, m, args, below, meth, c, cells, slots, Q⟩ := X
  intro C H locs ls hP hS hl
  exact lv_aload_n C.1 C.2.1 hd hi (hl.2.2 _ _ hx).1 (h C H locs ls hP hS hl)
theorem jw_aload {i : Nat} {x : Nat} (hd : decode f.2.1 pc = .ok (.aload i, 2)) (hx : L[i]? = some (some (.ref x))) (h : jw_X l X E A f (pc + 2) L (.ref x :: S) M) : jw_X l X E A f pc L S M := by
  obtain ⟨p, e, R, s, m, args, below, meth, c, cells, slots, Q⟩ := X
  intro C H locs ls hP hS hl
  exact lv_aload C.1 C.2.1 hd (hl.2.2 _ _ hx).1 (h C H locs ls hP hS hl)
theorem jw_astore_n {k : Fin 4} {i : Nat} {x : Nat} (hd : decode f.2.1 pc = .ok (.astore_n k, 1)) (hi : (k : Nat) = i) (hn : i < f.2.2.1) (h : jw_X l X E A f (pc + 1) (L.set i (some (.ref x))) S M) : jw_X l X E A f pc L (.ref x :: S) M := by
  obtain ⟨p, e, R, s, m, args, below, meth, c, cells, slots, Q⟩ := X
  intro C H locs ls hP hS hl
  exact lv_astore_n C.1 C.2.1 hd hi (jw_l_has hl) hn rfl (fun ls' hl' => h C H locs ls' hP hS (jw_l_set hl rfl hl'))
theorem jw_astore {i : Nat} {x : Nat} (hd : decode f.2.1 pc = .ok (.astore i, 2)) (hn : i < f.2.2.1) (h : jw_X l X E A f (pc + 2) (L.set i (some (.ref x))) S M) : jw_X l X E A f pc L (.ref x :: S) M := by
  obtain ⟨p, e, R, s, m, args, below, meth, c, cells, slots, Q⟩ := X
  intro C H locs ls hP hS hl
  exact lv_astore C.1 C.2.1 hd (jw_l_has hl) hn rfl (fun ls' hl' => h C H locs ls' hP hS (jw_l_set hl rfl hl'))
theorem jw_iinc {i : Nat} {n : Int} {x d : Int32} (hd : decode f.2.1 pc = .ok (.iinc i n, 3)) (hx : L[i]? = some (some (.int x))) (hv : Int32.ofInt n = d) (hn : i < f.2.2.1) (h : jw_X l X E A f (pc + 3) (L.set i (some (.int (x + d)))) S M) : jw_X l X E A f pc L S M := by
  obtain ⟨p, e, R, s, m, args, below, meth, c, cells, slots, Q⟩ := X
  intro C H locs ls hP hS hl
  obtain ⟨k, hk⟩ := List.getElem?_of_mem (jw_mem_pr hx)
  exact lv_iinc (v := x + d) C.1 C.2.1 hd (jw_l_has hl) hk (by rw [hv]) hn rfl (fun ls' hl' => h C H locs ls' hP hS (jw_l_set hl rfl hl'))
theorem jw_iadd {x y : Int32} (hd : decode f.2.1 pc = .ok (.iadd, 1)) (h : jw_X l X E A f (pc + 1) L (.int (x + y) :: S) M) : jw_X l X E A f pc L (.int y :: .int x :: S) M := by
  obtain ⟨p, e, R, s, m, args, below, meth, c, cells, slots, Q⟩ := X
  intro C H locs ls hP hS hl
  exact lv_iadd C.1 C.2.1 hd (h C H locs ls hP hS hl)
theorem jw_isub {x y : Int32} (hd : decode f.2.1 pc = .ok (.isub, 1)) (h : jw_X l X E A f (pc + 1) L (.int (x - y) :: S) M) : jw_X l X E A f pc L (.int y :: .int x :: S) M := by
  obtain ⟨p, e, R, s, m, args, below, meth, c, cells, slots, Q⟩ := X
  intro C H locs ls hP hS hl
  exact lv_isub C.1 C.2.1 hd (h C H locs ls hP hS hl)
theorem jw_imul {x y : Int32} (hd : decode f.2.1 pc = .ok (.imul, 1)) (h : jw_X l X E A f (pc + 1) L (.int (x * y) :: S) M) : jw_X l X E A f pc L (.int y :: .int x :: S) M := by
  obtain ⟨p, e, R, s, m, args, below, meth, c, cells, slots, Q⟩ := X
  intro C H locs ls hP hS hl
  exact lv_imul C.1 C.2.1 hd (h C H locs ls hP hS hl)
theorem jw_iand {x y : Int32} (hd : decode f.2.1 pc = .ok (.iand, 1)) (h : jw_X l X E A f (pc + 1) L (.int (x &&& y) :: S) M) : jw_X l X E A f pc L (.int y :: .int x :: S) M := by
  obtain ⟨p, e, R, s, m, args, below, meth, c, cells, slots, Q⟩ := X
  intro C H locs ls hP hS hl
  exact lv_iand C.1 C.2.1 hd (h C H locs ls hP hS hl)
theorem jw_idiv {x y : Int32} (hd : decode f.2.1 pc = .ok (.idiv, 1)) (hne : ¬ y = 0) (h : jw_X l X E A f (pc + 1) L (.int (x / y) :: S) M) : jw_X l X E A f pc L (.int y :: .int x :: S) M := by
  obtain ⟨p, e, R, s, m, args, below, meth, c, cells, slots, Q⟩ := X
  intro C H locs ls hP hS hl
  exact lv_idiv C.1 C.2.1 hd hne (h C H locs ls hP hS hl)
theorem jw_irem {x y : Int32} (hd : decode f.2.1 pc = .ok (.irem, 1)) (hne : ¬ y = 0) (h : jw_X l X E A f (pc + 1) L (.int (x - x / y * y) :: S) M) : jw_X l X E A f pc L (.int y :: .int x :: S) M := by
  obtain ⟨p, e, R, s, m, args, below, meth, c, cells, slots, Q⟩ := X
  intro C H locs ls hP hS hl
  exact lv_irem C.1 C.2.1 hd hne (h C H locs ls hP hS hl)
theorem jw_dup {v : Value} (hd : decode f.2.1 pc = .ok (.dup, 1)) (hc : v.category = 1) (h : jw_X l X E A f (pc + 1) L (v :: v :: S) M) : jw_X l X E A f pc L (v :: S) M := by
  obtain ⟨p, e, R, s, m, args, below, meth, c, cells, slots, Q⟩ := X
  intro C H locs ls hP hS hl
  exact lv_dup C.1 C.2.1 hd hc (h C H locs ls hP hS hl)
theorem jw_pop {v : Value} (hd : decode f.2.1 pc = .ok (.pop, 1)) (hc : v.category = 1) (h : jw_X l X E A f (pc + 1) L S M) : jw_X l X E A f pc L (v :: S) M := by
  obtain ⟨p, e, R, s, m, args, below, meth, c, cells, slots, Q⟩ := X
  intro C H locs ls hP hS hl
  exact lv_pop C.1 C.2.1 hd hc (h C H locs ls hP hS hl)
theorem jw_goto {off : Int} {tgt : Nat} (hd : decode f.2.1 pc = .ok (.goto off, 3)) (ht : (pc : Int) + off = (tgt : Int)) (h : jw_X l X E A f tgt L S M) : jw_X l X E A f pc L S M := by
  obtain ⟨p, e, R, s, m, args, below, meth, c, cells, slots, Q⟩ := X
  intro C H locs ls hP hS hl
  exact lv_goto C.1 C.2.1 hd ht (h C H locs ls hP hS hl)
theorem jw_if_eq {x : Int32} {off : Int} {tgt : Nat} (hd : decode f.2.1 pc = .ok (.ifCond .eq off, 3)) (ht : (pc : Int) + off = (tgt : Int)) (kt : x = 0 → jw_X l X E A f tgt L S M) (kf : ¬ x = 0 → jw_X l X E A f (pc + 3) L S M) : jw_X l X E A f pc L (.int x :: S) M := by
  obtain ⟨p, e, R, s, m, args, below, meth, c, cells, slots, Q⟩ := X
  intro C H locs ls hP hS hl
  exact lv_if_eq C.1 C.2.1 hd ht (fun z => kt z C H locs ls hP hS hl) (fun z => kf z C H locs ls hP hS hl)
theorem jw_icmp_eq {x y : Int32} {off : Int} {tgt : Nat} (hd : decode f.2.1 pc = .ok (.if_icmp .eq off, 3)) (ht : (pc : Int) + off = (tgt : Int)) (kt : x = y → jw_X l X E A f tgt L S M) (kf : ¬ x = y → jw_X l X E A f (pc + 3) L S M) : jw_X l X E A f pc L (.int y :: .int x :: S) M := by
  obtain ⟨p, e, R, s, m, args, below, meth, c, cells, slots, Q⟩ := X
  intro C H locs ls hP hS hl
  exact lv_icmp_eq C.1 C.2.1 hd ht (fun z => kt z C H locs ls hP hS hl) (fun z => kf z C H locs ls hP hS hl)
theorem jw_if_ne {x : Int32} {off : Int} {tgt : Nat} (hd : decode f.2.1 pc = .ok (.ifCond .ne off, 3)) (ht : (pc : Int) + off = (tgt : Int)) (kt : ¬ x = 0 → jw_X l X E A f tgt L S M) (kf : x = 0 → jw_X l X E A f (pc + 3) L S M) : jw_X l X E A f pc L (.int x :: S) M := by
  obtain ⟨p, e, R, s, m, args, below, meth, c, cells, slots, Q⟩ := X
  intro C H locs ls hP hS hl
  exact lv_if_ne C.1 C.2.1 hd ht (fun z => kt z C H locs ls hP hS hl) (fun z => kf z C H locs ls hP hS hl)
theorem jw_icmp_ne {x y : Int32} {off : Int} {tgt : Nat} (hd : decode f.2.1 pc = .ok (.if_icmp .ne off, 3)) (ht : (pc : Int) + off = (tgt : Int)) (kt : ¬ x = y → jw_X l X E A f tgt L S M) (kf : x = y → jw_X l X E A f (pc + 3) L S M) : jw_X l X E A f pc L (.int y :: .int x :: S) M := by
  obtain ⟨p, e, R, s, m, args, below, meth, c, cells, slots, Q⟩ := X
  intro C H locs ls hP hS hl
  exact lv_icmp_ne C.1 C.2.1 hd ht (fun z => kt z C H locs ls hP hS hl) (fun z => kf z C H locs ls hP hS hl)
theorem jw_if_lt {x : Int32} {off : Int} {tgt : Nat} (hd : decode f.2.1 pc = .ok (.ifCond .lt off, 3)) (ht : (pc : Int) + off = (tgt : Int)) (kt : x < 0 → jw_X l X E A f tgt L S M) (kf : ¬ x < 0 → jw_X l X E A f (pc + 3) L S M) : jw_X l X E A f pc L (.int x :: S) M := by
  obtain ⟨p, e, R, s, m, args, below, meth, c, cells, slots, Q⟩ := X
  intro C H locs ls hP hS hl
  exact lv_if_lt C.1 C.2.1 hd ht (fun z => kt z C H locs ls hP hS hl) (fun z => kf z C H locs ls hP hS hl)
theorem jw_icmp_lt {x y : Int32} {off : Int} {tgt : Nat} (hd : decode f.2.1 pc = .ok (.if_icmp .lt off, 3)) (ht : (pc : Int) + off = (tgt : Int)) (kt : x < y → jw_X l X E A f tgt L S M) (kf : ¬ x < y → jw_X l X E A f (pc + 3) L S M) : jw_X l X E A f pc L (.int y :: .int x :: S) M := by
  obtain ⟨p, e, R, s, m, args, below, meth, c, cells, slots, Q⟩ := X
  intro C H locs ls hP hS hl
  exact lv_icmp_lt C.1 C.2.1 hd ht (fun z => kt z C H locs ls hP hS hl) (fun z => kf z C H locs ls hP hS hl)
theorem jw_if_ge {x : Int32} {off : Int} {tgt : Nat} (hd : decode f.2.1 pc = .ok (.ifCond .ge off, 3)) (ht : (pc : Int) + off = (tgt : Int)) (kt : 0 ≤ x → jw_X l X E A f tgt L S M) (kf : ¬ 0 ≤ x → jw_X l X E A f (pc + 3) L S M) : jw_X l X E A f pc L (.int x :: S) M := by
  obtain ⟨p, e, R, s, m, args, below, meth, c, cells, slots, Q⟩ := X
  intro C H locs ls hP hS hl
  exact lv_if_ge C.1 C.2.1 hd ht (fun z => kt z C H locs ls hP hS hl) (fun z => kf z C H locs ls hP hS hl)
theorem jw_icmp_ge {x y : Int32} {off : Int} {tgt : Nat} (hd : decode f.2.1 pc = .ok (.if_icmp .ge off, 3)) (ht : (pc : Int) + off = (tgt : Int)) (kt : y ≤ x → jw_X l X E A f tgt L S M) (kf : ¬ y ≤ x → jw_X l X E A f (pc + 3) L S M) : jw_X l X E A f pc L (.int y :: .int x :: S) M := by
  obtain ⟨p, e, R, s, m, args, below, meth, c, cells, slots, Q⟩ := X
  intro C H locs ls hP hS hl
  exact lv_icmp_ge C.1 C.2.1 hd ht (fun z => kt z C H locs ls hP hS hl) (fun z => kf z C H locs ls hP hS hl)
theorem jw_if_gt {x : Int32} {off : Int} {tgt : Nat} (hd : decode f.2.1 pc = .ok (.ifCond .gt off, 3)) (ht : (pc : Int) + off = (tgt : Int)) (kt : 0 < x → jw_X l X E A f tgt L S M) (kf : ¬ 0 < x → jw_X l X E A f (pc + 3) L S M) : jw_X l X E A f pc L (.int x :: S) M := by
  obtain ⟨p, e, R, s, m, args, below, meth, c, cells, slots, Q⟩ := X
  intro C H locs ls hP hS hl
  exact lv_if_gt C.1 C.2.1 hd ht (fun z => kt z C H locs ls hP hS hl) (fun z => kf z C H locs ls hP hS hl)
theorem jw_icmp_gt {x y : Int32} {off : Int} {tgt : Nat} (hd : decode f.2.1 pc = .ok (.if_icmp .gt off, 3)) (ht : (pc : Int) + off = (tgt : Int)) (kt : y < x → jw_X l X E A f tgt L S M) (kf : ¬ y < x → jw_X l X E A f (pc + 3) L S M) : jw_X l X E A f pc L (.int y :: .int x :: S) M := by
  obtain ⟨p, e, R, s, m, args, below, meth, c, cells, slots, Q⟩ := X
  intro C H locs ls hP hS hl
  exact lv_icmp_gt C.1 C.2.1 hd ht (fun z => kt z C H locs ls hP hS hl) (fun z => kf z C H locs ls hP hS hl)
theorem jw_if_le {x : Int32} {off : Int} {tgt : Nat} (hd : decode f.2.1 pc = .ok (.ifCond .le off, 3)) (ht : (pc : Int) + off = (tgt : Int)) (kt : x ≤ 0 → jw_X l X E A f tgt L S M) (kf : ¬ x ≤ 0 → jw_X l X E A f (pc + 3) L S M) : jw_X l X E A f pc L (.int x :: S) M := by
  obtain ⟨p, e, R, s, m, args, below, meth, c, cells, slots, Q⟩ := X
  intro C H locs ls hP hS hl
  exact lv_if_le C.1 C.2.1 hd ht (fun z => kt z C H locs ls hP hS hl) (fun z => kf z C H locs ls hP hS hl)
theorem jw_icmp_le {x y : Int32} {off : Int} {tgt : Nat} (hd : decode f.2.1 pc = .ok (.if_icmp .le off, 3)) (ht : (pc : Int) + off = (tgt : Int)) (kt : x ≤ y → jw_X l X E A f tgt L S M) (kf : ¬ x ≤ y → jw_X l X E A f (pc + 3) L S M) : jw_X l X E A f pc L (.int y :: .int x :: S) M := by
  obtain ⟨p, e, R, s, m, args, below, meth, c, cells, slots, Q⟩ := X
  intro C H locs ls hP hS hl
  exact lv_icmp_le C.1 C.2.1 hd ht (fun z => kt z C H locs ls hP hS hl) (fun z => kf z C H locs ls hP hS hl)
theorem jw_ireturn {r : Int32} {ty : FieldType} (hd : decode f.2.1 pc = .ok (.ireturn, 1)) (h0 : f.2.2.2.1 = some ty) (h : jw_R l X E A f r M) : jw_X l X E A f pc L [.int r] M := by
  obtain ⟨p, e, R, s, m, args, below, meth, c, cells, slots, Q⟩ := X
  intro C H locs ls hP hS hl
  exact (h C H locs pc ls hP hS).2 ty h0 hd
theorem jw_return (hd : decode f.2.1 pc = .ok (.return_, 1)) (h0 : f.2.2.2.1 = none) (h : jw_R l X E A f 0 M) : jw_X l X E A f pc L [] M := by
  obtain ⟨p, e, R, s, m, args, below, meth, c, cells, slots, Q⟩ := X
  intro C H locs ls hP hS hl
  exact (h C H locs pc ls hP hS).1 h0 rfl hd
/-- cells by their kinds -/
theorem jw_cont_0 {k ci : Nat} {rs : List (Option Nat)} {μ : Nat → Int32} (hk : E.2.2.2.1[k]? = some (0, ci, rs)) : jw_cont E k μ = .inr (ci, jw_fs E rs μ) := by simp only [jw_cont, hk]
theorem jw_cont_1 {k n : Nat} {rs : List (Option Nat)} {μ : Nat → Int32} (hk : E.2.2.2.1[k]? = some (1, n, rs)) : jw_cont E k μ = .inl (E.2.1 k, n, .inl μ) := by simp only [jw_cont, hk]
theorem jw_cont_2 {k n : Nat} {rs : List (Option Nat)} {μ : Nat → Int32} (hk : E.2.2.2.1[k]? = some (2, n, rs)) : jw_cont E k μ = .inl (E.2.1 k, n, .inl μ) := by simp only [jw_cont, hk]
theorem jw_cont_3 {k n : Nat} {rs : List (Option Nat)} {μ : Nat → Int32} (hk : E.2.2.2.1[k]? = some (3, n, rs)) : jw_cont E k μ = .inl (E.2.1 k, n, .inr (.inr (.inr (.inr (fun i => (rs.getD i none).map E.2.2.1))))) := by simp only [jw_cont, hk]
theorem jw_cont_4 {k n : Nat} {rs : List (Option Nat)} {μ : Nat → Int32} (hk : E.2.2.2.1[k]? = some (4, n, rs)) : jw_cont E k μ = .inl (E.2.1 k, n, .inr (.inr (.inr (.inr (fun i => (rs.getD i none).map E.2.2.1))))) := by simp only [jw_cont, hk]
theorem jw_at_0 {k ci : Nat} {rs : List (Option Nat)} (hk : E.2.2.2.1[k]? = some (0, ci, rs)) : (jw_W E M)[k]? = some (E.2.2.1 k, .inr (ci, jw_fs E rs (M k))) := by rw [jw_W_at (jw_lt hk), jw_cont_0 hk]
theorem jw_at_1 {k n : Nat} {rs : List (Option Nat)} (hk : E.2.2.2.1[k]? = some (1, n, rs)) : (jw_W E M)[k]? = some (E.2.2.1 k, .inl (E.2.1 k, n, .inl (M k))) := by rw [jw_W_at (jw_lt hk), jw_cont_1 hk]
theorem jw_at_2 {k n : Nat} {rs : List (Option Nat)} (hk : E.2.2.2.1[k]? = some (2, n, rs)) : (jw_W E M)[k]? = some (E.2.2.1 k, .inl (E.2.1 k, n, .inl (M k))) := by rw [jw_W_at (jw_lt hk), jw_cont_2 hk]
theorem jw_at_3 {k n : Nat} {rs : List (Option Nat)} (hk : E.2.2.2.1[k]? = some (3, n, rs)) : (jw_W E M)[k]? = some (E.2.2.1 k, .inl (E.2.1 k, n, .inr (.inr (.inr (.inr (fun i => (rs.getD i none).map E.2.2.1)))))) := by rw [jw_W_at (jw_lt hk), jw_cont_3 hk]
theorem jw_at_4 {k n : Nat} {rs : List (Option Nat)} (hk : E.2.2.2.1[k]? = some (4, n, rs)) : (jw_W E M)[k]? = some (E.2.2.1 k, .inl (E.2.1 k, n, .inr (.inr (.inr (.inr (fun i => (rs.getD i none).map E.2.2.1)))))) := by rw [jw_W_at (jw_lt hk), jw_cont_4 hk]
theorem jw_fs_at {rs : List (Option Nat)} {μ : Nat → Int32} {j : Nat} {r : Option Nat} (hr : rs[j]? = some r) : (jw_fs E rs μ)[j]? = some (jw_fv E μ j r) := by
  unfold jw_fs
  rw [List.getElem?_mapIdx, hr]
  rfl
theorem jw_fs_set {rs : List (Option Nat)} {μ : Nat → Int32} {j : Nat} {x : Int32} (hr : rs[j]? = some none) : (jw_fs E rs μ).set j (.int x) = jw_fs E rs (upd μ j x) := by
  apply List.ext_getElem?
  intro i
  unfold jw_fs
  rw [List.getElem?_mapIdx]
  by_cases hi : i = j
  · subst hi
    rw [List.getElem?_set_self (by rw [List.length_mapIdx]; exact (List.getElem?_eq_some_iff.mp hr).1), hr]
    simp [jw_fv, upd]
  · rw [List.getElem?_set_ne (Ne.symm hi), List.getElem?_mapIdx]
    cases rs[i]? with
    | none => rfl
    | some r => cases r <;> simp [jw_fv, upd, hi]
theorem jw_set_0 {k ci j : Nat} {rs : List (Option Nat)} {x : Int32} (hk : E.2.2.2.1[k]? = some (0, ci, rs)) (hr : rs[j]? = some none) : (jw_W E M).set k (E.2.2.1 k, .inr (ci, (jw_fs E rs (M k)).set j (.int x))) = jw_W E (jw_U M k j x) := by
  rw [jw_fs_set hr, ← jw_cont_0 (μ := upd (M k) j x) hk, jw_W_set _ (jw_lt hk)]
  rfl
theorem jw_set_1 {k n : Nat} {rs : List (Option Nat)} {μ : Nat → Int32} (hk : E.2.2.2.1[k]? = some (1, n, rs)) : (jw_W E M).set k (E.2.2.1 k, .inl (E.2.1 k, n, .inl μ)) = jw_W E (jw_UA M k μ) := by
  rw [← jw_cont_1 (μ := μ) hk, jw_W_set _ (jw_lt hk)]
theorem jw_set_2 {k n : Nat} {rs : List (Option Nat)} {μ : Nat → Int32} (hk : E.2.2.2.1[k]? = some (2, n, rs)) : (jw_W E M).set k (E.2.2.1 k, .inl (E.2.1 k, n, .inl μ)) = jw_W E (jw_UA M k μ) := by
  rw [← jw_cont_2 (μ := μ) hk, jw_W_set _ (jw_lt hk)]
/-- a class's row: its fields' words, their types, their names apart -/
def jw_okC (Cn : String) (T : u_T) (N : Nat) (ty : Nat → FieldType) : Prop := (∀ w ∈ u_ws Cn T N, w ∈ jw_ws) ∧ (∀ k, k < N → parseFieldDescriptor (T k).2.2.1 = some (ty k)) ∧ (∀ a, a < N → ∀ b, b < N → a ≠ b → (T a).2.1 ≠ (T b).2.1)
theorem jw_get {k ci j N idx : Nat} {rs : List (Option Nat)} {r : Option Nat} {Cn ref : String} {T : u_T} {ty : Nat → FieldType} {v : Value} (hd : decode f.2.1 pc = .ok (.getfield idx, 3)) (hk : E.2.2.2.1[k]? = some (0, ci, rs)) (hc : vwCl[ci]? = some (Cn, T, N)) (ok : jw_okC Cn T N ty) (hj : j < N) (hlink : Cond.fieldLink f.1.cls idx (T j).1 (T j).2.1 (T j).2.2.1 ∈ jw_ws) (hr : rs[j]? = some r) (hv : jw_fv E (M k) j r = v)
    (h : jw_X l X E A f (pc + 3) L (v :: S) M) : jw_X l X E A f pc L (.ref (E.2.2.1 k) :: S) M := by
  obtain ⟨p, e, R, s, m, args, below, meth, c, cells, slots, Q⟩ := X
  intro C H locs ls hP hS hl
  subst hv
  exact va_get (D := E.1) (ci := ci) (C := Cn) (T := T) (N := N) C.1 C.2.1 C.2.2.2.2.2.1 ok.1 C.2.2.2.2.1 (jw_K_0 C.2.2.2.2.2.2.2.1.1) hP k (jw_at_0 hk) hc j hj (C.2.2.2.2.2.1 _ hlink) (fun _ h9 => h9) (jw_fs_at hr) hd (h C H locs ls hP hS hl)
theorem jw_put {k ci j N idx : Nat} {rs : List (Option Nat)} {Cn : String} {T : u_T} {ty : Nat → FieldType} {x : Int32} (hd : decode f.2.1 pc = .ok (.putfield idx, 3)) (hk : E.2.2.2.1[k]? = some (0, ci, rs)) (hc : vwCl[ci]? = some (Cn, T, N)) (ok : jw_okC Cn T N ty) (hj : j < N) (hlink : Cond.fieldLink f.1.cls idx (T j).1 (T j).2.1 (T j).2.2.1 ∈ jw_ws) (hr : rs[j]? = some none) (hfin : (T j).2.2.2 = false) (hn : narrow (ty j) (.int x) = .int x) (hf : fits (ty j) (.int x) = true)
    (h : jw_X l X E A f (pc + 3) L S (jw_U M k j x)) : jw_X l X E A f pc L (.int x :: .ref (E.2.2.1 k) :: S) M := by
  obtain ⟨p, e, R, s, m, args, below, meth, c, cells, slots, Q⟩ := X
  intro C H locs ls hP hS hl
  refine va_put (D := E.1) (ci := ci) (C := Cn) (T := T) (N := N) C.1 C.2.1 C.2.2.2.2.2.1 ok.1 ty ok.2.1 ok.2.2 C.2.2.2.2.1 (jw_K_0 C.2.2.2.2.2.2.2.1.1) hP (jw_D_va C.2.2.2.2.2.2.2.1.2.2 M) hS k (jw_at_0 hk) hc j hj (C.2.2.2.2.2.1 _ hlink) (fun _ h9 => h9) hfin (ok.2.1 j hj) hn hf (by unfold jw_fs; rw [List.length_mapIdx]; exact (List.getElem?_eq_some_iff.mp hr).1) hd (fun H1 locs1 hP1 hD1 hS1 => ?_)
  rw [jw_set_0 hk hr] at hP1
  exact h C H1 locs1 ls hP1 hS1 hl
theorem jw_iald {k n : Nat} {rs : List (Option Nat)} {i : Int32} (hd : decode f.2.1 pc = .ok (.iaload, 1)) (hk : E.2.2.2.1[k]? = some (1, n, rs)) (hin : vp_in i n) (h : jw_X l X E A f (pc + 1) L (.int (M k i.toNatClampNeg) :: S) M) : jw_X l X E A f pc L (.int i :: .ref (E.2.2.1 k) :: S) M := by
  obtain ⟨p, e, R, s, m, args, below, meth, c, cells, slots, Q⟩ := X
  intro C H locs ls hP hS hl
  exact va_iald C.1 C.2.1 (jw_K_1 C.2.2.2.2.2.2.2.1.1 hk (by decide)) hP k 0 (jw_at_1 hk) rfl hin hd (h C H locs ls hP hS hl)
theorem jw_zald {k n : Nat} {rs : List (Option Nat)} {i : Int32} (hd : decode f.2.1 pc = .ok (.baload, 1)) (hk : E.2.2.2.1[k]? = some (2, n, rs)) (hin : vp_in i n) (h : jw_X l X E A f (pc + 1) L (.int (M k i.toNatClampNeg) :: S) M) : jw_X l X E A f pc L (.int i :: .ref (E.2.2.1 k) :: S) M := by
  obtain ⟨p, e, R, s, m, args, below, meth, c, cells, slots, Q⟩ := X
  intro C H locs ls hP hS hl
  exact va_zald C.1 C.2.1 (jw_K_1 C.2.2.2.2.2.2.2.1.1 hk (by decide)) hP k 0 (jw_at_2 hk) rfl hin hd (h C H locs ls hP hS hl)
theorem jw_iast {k n : Nat} {rs : List (Option Nat)} {i x : Int32} (hd : decode f.2.1 pc = .ok (.iastore, 1)) (hk : E.2.2.2.1[k]? = some (1, n, rs)) (hin : vp_in i n) (h : jw_X l X E A f (pc + 1) L S (jw_U M k i.toNatClampNeg x)) : jw_X l X E A f pc L (.int x :: .int i :: .ref (E.2.2.1 k) :: S) M := by
  obtain ⟨p, e, R, s, m, args, below, meth, c, cells, slots, Q⟩ := X
  intro C H locs ls hP hS hl
  refine va_iast C.1 C.2.1 (jw_K_1 C.2.2.2.2.2.2.2.1.1 hk (by decide)) hP (jw_D_va C.2.2.2.2.2.2.2.1.2.2 M) hS k 0 (jw_at_1 hk) rfl hin hd (fun H1 locs1 hP1 hD1 hS1 => ?_)
  rw [jw_set_1 hk] at hP1
  exact h C H1 locs1 ls hP1 hS1 hl
theorem jw_zast {k n : Nat} {rs : List (Option Nat)} {i x : Int32} (hd : decode f.2.1 pc = .ok (.bastore, 1)) (hk : E.2.2.2.1[k]? = some (2, n, rs)) (hin : vp_in i n) (hx : vp_nar .boolean x = x) (h : jw_X l X E A f (pc + 1) L S (jw_U M k i.toNatClampNeg x)) : jw_X l X E A f pc L (.int x :: .int i :: .ref (E.2.2.1 k) :: S) M := by
  obtain ⟨p, e, R, s, m, args, below, meth, c, cells, slots, Q⟩ := X
  intro C H locs ls hP hS hl
  refine va_zast C.1 C.2.1 (jw_K_1 C.2.2.2.2.2.2.2.1.1 hk (by decide)) hP (jw_D_va C.2.2.2.2.2.2.2.1.2.2 M) hS k 0 (jw_at_2 hk) rfl hin hd (fun H1 locs1 hP1 hD1 hS1 => ?_)
  rw [hx, jw_set_2 hk] at hP1
  exact h C H1 locs1 ls hP1 hS1 hl
theorem jw_aald3 {k n t : Nat} {rs : List (Option Nat)} {i : Int32} (hd : decode f.2.1 pc = .ok (.aaload, 1)) (hk : E.2.2.2.1[k]? = some (3, n, rs)) (hin : vp_in i n) (ht : rs[i.toNatClampNeg]? = some (some t)) (h : jw_X l X E A f (pc + 1) L (.ref (E.2.2.1 t) :: S) M) : jw_X l X E A f pc L (.int i :: .ref (E.2.2.1 k) :: S) M := by
  obtain ⟨p, e, R, s, m, args, below, meth, c, cells, slots, Q⟩ := X
  intro C H locs ls hP hS hl
  refine va_aldq (C := "VersionRing$Node") C.1 C.2.1 (jw_K_1 C.2.2.2.2.2.2.2.1.1 hk (by decide)) hP k 0 (jw_at_3 hk) rfl hin hd ?_
  rw [List.getD_eq_getElem?_getD, ht]
  exact h C H locs ls hP hS hl
theorem jw_aald4 {k n t : Nat} {rs : List (Option Nat)} {i : Int32} (hd : decode f.2.1 pc = .ok (.aaload, 1)) (hk : E.2.2.2.1[k]? = some (4, n, rs)) (hin : vp_in i n) (ht : rs[i.toNatClampNeg]? = some (some t)) (h : jw_X l X E A f (pc + 1) L (.ref (E.2.2.1 t) :: S) M) : jw_X l X E A f pc L (.int i :: .ref (E.2.2.1 k) :: S) M := by
  obtain ⟨p, e, R, s, m, args, below, meth, c, cells, slots, Q⟩ := X
  intro C H locs ls hP hS hl
  refine va_aldq (C := "VersionRing$Context") C.1 C.2.1 (jw_K_1 C.2.2.2.2.2.2.2.1.1 hk (by decide)) hP k 0 (jw_at_4 hk) rfl hin hd ?_
  rw [List.getD_eq_getElem?_getD, ht]
  exact h C H locs ls hP hS hl
theorem jw_alen1 {k n : Nat} {rs : List (Option Nat)} (hd : decode f.2.1 pc = .ok (.arraylength, 1)) (hk : E.2.2.2.1[k]? = some (1, n, rs)) (h : jw_X l X E A f (pc + 1) L (.int (Int32.ofNat n) :: S) M) : jw_X l X E A f pc L (.ref (E.2.2.1 k) :: S) M := by
  obtain ⟨p, e, R, s, m, args, below, meth, c, cells, slots, Q⟩ := X
  intro C H locs ls hP hS hl
  exact va_alen (ty := .int) C.1 C.2.1 (jw_K_1 C.2.2.2.2.2.2.2.1.1 hk (by decide)) hP k 0 (jw_at_1 hk) rfl rfl hd (h C H locs ls hP hS hl)
theorem jw_getstatic {t idx : Nat} (hd : decode f.2.1 pc = .ok (.getstatic idx, 3)) (ht : E.2.2.2.2 = some t) (hlink : Cond.fieldLink f.1.cls idx "VersionRing" "NOTHING_KNOWN" "[I" ∈ jw_ws) (h : jw_X l X E A f (pc + 3) L (.ref t :: S) M) : jw_X l X E A f pc L S M := by
  obtain ⟨p, e, R, s, m, args, below, meth, c, cells, slots, Q⟩ := X
  intro C H locs ls hP hS hl
  exact va_gets C.1 C.2.1 (C.2.2.2.2.2.2.2.1.2.1 t ht).1 hS C.2.2.2.2.1 (C.2.2.2.2.2.1 _ hlink) (fun _ h9 => h9) hd (h C H locs ls hP hS hl)
theorem jw_tableOut {dflt lo hi : Int} {offs : Array Int} {len tgt : Nat} {x : Int32} (hd : decode f.2.1 pc = .ok (.tableswitch dflt lo hi offs, len)) (hx : x.toInt < lo ∨ hi < x.toInt) (ht : (pc : Int) + dflt = (tgt : Int)) (h : jw_X l X E A f tgt L S M) : jw_X l X E A f pc L (.int x :: S) M := by
  obtain ⟨p, e, R, s, m, args, below, meth, c, cells, slots, Q⟩ := X
  intro C H locs ls hP hS hl
  exact lv_tableOut C.1 C.2.1 hd hx ht (h C H locs ls hP hS hl)
theorem jw_tableIn {dflt lo hi off : Int} {offs : Array Int} {len tgt : Nat} {x : Int32} (hd : decode f.2.1 pc = .ok (.tableswitch dflt lo hi offs, len)) (h1 : ¬ x.toInt < lo) (h2 : ¬ hi < x.toInt) (ho : offs[(x.toInt - lo).toNat]? = some off) (ht : (pc : Int) + off = (tgt : Int)) (h : jw_X l X E A f tgt L S M) : jw_X l X E A f pc L (.int x :: S) M := by
  obtain ⟨p, e, R, s, m, args, below, meth, c, cells, slots, Q⟩ := X
  intro C H locs ls hP hS hl
  exact lv_tableIn C.1 C.2.1 hd h1 h2 ho ht (h C H locs ls hP hS hl)
/-- the law's script -/
def jw_scr (X : jw_X0) (A : Nat → Prop) (b n : Nat) (xs : Nat → Int32) : Prop := va_X b n xs X.2.2.2.1 X.2.2.2.1.heap ∧ b < X.2.2.2.1.heap.size ∧ ¬ A b
theorem jw_sld {b n : Nat} {xs : Nat → Int32} {i : Int32} (hd : decode f.2.1 pc = .ok (.iaload, 1)) (hX : jw_scr X A b n xs) (hin : vp_in i n) (h : jw_X l X E A f (pc + 1) L (.int (xs i.toNatClampNeg) :: S) M) : jw_X l X E A f pc L (.int i :: .ref b :: S) M := by
  obtain ⟨p, e, R, s, m, args, below, meth, c, cells, slots, Q⟩ := X
  intro C H locs ls hP hS hl
  exact va_sld C.1 C.2.1 hX.1 hX.2.1 hX.2.2 hS hin hd (h C H locs ls hP hS hl)
theorem jw_slen {b n : Nat} {xs : Nat → Int32} (hd : decode f.2.1 pc = .ok (.arraylength, 1)) (hX : jw_scr X A b n xs) (h : jw_X l X E A f (pc + 1) L (.int (Int32.ofNat n) :: S) M) : jw_X l X E A f pc L (.ref b :: S) M := by
  obtain ⟨p, e, R, s, m, args, below, meth, c, cells, slots, Q⟩ := X
  intro C H locs ls hP hS hl
  exact va_slen C.1 C.2.1 hX.1 hX.2.1 hX.2.2 hS hd (h C H locs ls hP hS hl)
theorem jw_mmin {x y : Int32} {idx : Nat} (hd : decode f.2.1 pc = .ok (.invokestatic idx, 3)) (h1 : Cond.methodLink f.1.cls idx Lib.Math.min.name ∈ jw_ws) (h2 : Cond.static Lib.Math.min.name ∈ jw_ws) (h3 : Cond.initialized "java/lang/Math" ∈ jw_ws) (h4 : Cond.code Lib.Math.min.name Lib.Math.min.code 2 (some .int) ∈ jw_ws) (h5 : 1 ≤ f.2.2.2.2.1 ∧ 21 ≤ f.2.2.2.2.2) (h6 : (S.map fun v => v.category).sum ≤ 8) (h : jw_X l X E A f (pc + 3) L (.int (if y < x then y else x) :: S) M) : jw_X l X E A f pc L (.int y :: .int x :: S) M := by
  obtain ⟨p, e, R, s, m, args, below, meth, c, cells, slots, Q⟩ := X
  intro C H locs ls hP hS hl
  have hR := C.2.2.2.2.2.2.2.2
  exact va_mmin C.1 C.2.1 (C.2.2.2.1.trans hl.1.symm) C.2.2.2.2.1 (C.2.2.2.2.2.1 _ h1) (C.2.2.2.2.2.1 _ h2) (C.2.2.2.2.2.1 _ h3) (C.2.2.2.2.2.1 _ h4) (Nat.le_trans h5.1 hR.1) (by have := hR.2.1; have := h5.2; omega) hR.2.2.1 hR.2.2.2 hd (h C H locs ls hP hS hl)
theorem jw_mmax {x y : Int32} {idx : Nat} (hd : decode f.2.1 pc = .ok (.invokestatic idx, 3)) (h1 : Cond.methodLink f.1.cls idx Lib.Math.max.name ∈ jw_ws) (h2 : Cond.static Lib.Math.max.name ∈ jw_ws) (h3 : Cond.initialized "java/lang/Math" ∈ jw_ws) (h4 : Cond.code Lib.Math.max.name Lib.Math.max.code 2 (some .int) ∈ jw_ws) (h5 : 1 ≤ f.2.2.2.2.1 ∧ 21 ≤ f.2.2.2.2.2) (h6 : (S.map fun v => v.category).sum ≤ 8) (h : jw_X l X E A f (pc + 3) L (.int (if x < y then y else x) :: S) M) : jw_X l X E A f pc L (.int y :: .int x :: S) M := by
  obtain ⟨p, e, R, s, m, args, below, meth, c, cells, slots, Q⟩ := X
  intro C H locs ls hP hS hl
  have hR := C.2.2.2.2.2.2.2.2
  exact va_mmax C.1 C.2.1 (C.2.2.2.1.trans hl.1.symm) C.2.2.2.2.1 (C.2.2.2.2.2.1 _ h1) (C.2.2.2.2.2.1 _ h2) (C.2.2.2.2.2.1 _ h3) (C.2.2.2.2.2.1 _ h4) (Nat.le_trans h5.1 hR.1) (by have := hR.2.1; have := h5.2; omega) hR.2.2.1 hR.2.2.2 hd (h C H locs ls hP hS hl)
/-- a callee's words -/
def jw_ok (own : String) (idx : Nat) (g : jw_F) (n : Nat) : Prop := Cond.methodLink own idx g.1 ∈ jw_ws ∧ Cond.initialized g.1.cls ∈ jw_ws ∧ Cond.code g.1 g.2.1 g.2.2.1 g.2.2.2.1 ∈ jw_ws ∧ (g.1.cls ≠ "java/lang/invoke/MethodHandle" ∧ g.1.cls ≠ "java/lang/invoke/VarHandle" ∧ (parseMethodDescriptor g.1.desc).map (fun d => d.parameters.length) = some n)
def jw_pu (ret : Option FieldType) (r : Int32) : List Value := match ret with
  | none => []
  | some _ => [.int r]
theorem jw_good {g : jw_F} (h : Cond.code g.1 g.2.1 g.2.2.1 g.2.2.2.1 ∈ jw_ws) : GoodIn jw_ws (jw_w g) := by
  intro w hw
  rcases List.mem_cons.mp hw with rfl | hw
  · exact ⟨h, Or.inl rfl⟩
  · exact ⟨hw, good_of_word (List.mem_filter.mp hw).2⟩
theorem jw_blind {As : List Value} : FrameBlind (va_Pc As (jw_I E A M)) := fun a U g mk q => by
  obtain ⟨q0, qP, qK, qZ, qD⟩ := q
  exact ⟨q0, qP, jw_K_moved (u := U) (U := U.calling g mk a) (Vm.Alike.refl U.vm) qK, jw_Z_moved (u := U) (U := U.calling g mk a) (Vm.Alike.refl U.vm) qZ, qD⟩
theorem jw_pre {s : State} {H : Heap} {locs : List Loc} {As : List Value} (hx : jw_S E A s) (hP : va_P E.1 vwCl (jw_W E M) H) (hS : va_S A s.heap H locs) {U : State} (hU : U.heap = H) (hW : s.WarmedH U.vm) : va_Pc As (jw_I E A M) As.toArray U := by
  refine ⟨rfl, by rw [hU]; exact hP, jw_K_moved hW.alike hx.1, ?_, hx.2.2⟩
  rw [hU]
  exact jw_Z_moved hW.alike (jw_Z_kept hx.2.1 hS.2.1)
/-- behind a call -/
theorem jw_back {g : jw_F} {p : Program} {e : Env} {R : Room} {s : State} {m : MethodId} {args a : Array Value} {below : List Frame} {meth : Method} {c : Code} {cells slots : Nat} {Q : State → Prop} {H : Heap} {locs : List Loc} {ls : Array Slot} {st0 : List Value} {T : Int32 → jw_Mem → Prop}
    (hr : va_Run p l e R s m args below meth c H locs cells slots 0 0 (F0 m pc ls st0) S (jw_Q E A g.2.2.2.1 T a) A) (hS : va_S A s.heap H locs)
    (kk : ∀ (r : Int32) (M' : jw_Mem) (H1 : Heap) (locs1 : List Loc), T r M' → va_P E.1 vwCl (jw_W E M') H1 → va_S A s.heap H1 locs1 → W p l e R s m args below meth c H1 locs1 cells slots Q (F0 m (pc + 3) ls (jw_pu g.2.2.2.1 r ++ S))) : W p l e R s m args below meth c H locs cells slots Q (F0 m pc ls st0) := by
  obtain ⟨y, bytes, maxL, ret, dep, loc⟩ := g
  cases ret with
  | none => exact va_callv (a := a) (post := fun M => T 0 M) (B := jw_B E) hr hS (fun _ _ h => h) (fun _ h => h) (fun u t H1 locs1 ht hvm hp hB hz hk hS1 => kk 0 u H1 locs1 hp (by have h2 : va_P E.1 vwCl (jw_W E u) t.heap := hB; rw [ht] at h2; exact h2) hS1)
  | some ty => exact va_calli (a := a) (post := T) (B := jw_B E) hr hS (fun _ _ h => h) (fun _ h => h) (fun r u t H1 locs1 ht hvm hp hB hz hk hS1 => kk r u H1 locs1 hp (by have h2 : va_P E.1 vwCl (jw_W E u) t.heap := hB; rw [ht] at h2; exact h2) hS1)
theorem jw_callV {g : jw_F} {k ci idx n N : Nat} {rs : List (Option Nat)} {T : u_T} {As St : List Value} (hd : decode f.2.1 pc = .ok (.invokevirtual idx, 3)) (hk : E.2.2.2.1[k]? = some (0, ci, rs)) (hc : vwCl[ci]? = some (g.1.cls, T, N)) (ok : jw_ok f.1.cls idx g n) (hi : Cond.instanceMethod g.1 ∈ jw_ws) (hs : Cond.selects g.1.cls g.1 g.1 ∈ jw_ws) (hdep : g.2.2.2.2.1 < f.2.2.2.2.1 ∧ 8 + (g.2.2.1 + 11) + g.2.2.2.2.2 ≤ f.2.2.2.2.2) (hn : As.length = n) (hst : St = As.reverse ++ .ref (E.2.2.1 k) :: S) (h8 : (S.map fun v => v.category).sum ≤ 8)
    (h : jw_M l E A g (.ref (E.2.2.1 k) :: As) M (fun r M' => jw_X l X E A f (pc + 3) L (jw_pu g.2.2.2.1 r ++ S) M')) : jw_X l X E A f pc L St M := by
  obtain ⟨p, e, R, s, m, args, below, meth, c, cells, slots, Q⟩ := X
  intro C H locs ls hP hS hl
  have hR := C.2.2.2.2.2.2.2.2
  have hts := C.2.2.2.2.2.1
  have hrun := va_runV (cells := cells) (slots := slots) (e := e) (below := below) (meth := meth) (locs := locs) (g := F0 m pc ls St) (rest := S) (Ts := jw_ws) (own := f.1.cls) (C := g.1.cls) ⟨C.1, C.2.1, C.2.2.2.1, C.2.2.2.2.1, hts⟩ h
    ⟨callB_of n hts (jw_good ok.2.2.1) rfl rfl rfl (hts _ ok.2.1) (hts _ ok.1) ok.2.2.2 ⟨Nat.le_trans hdep.1 hR.1, Nat.le_trans hdep.2 hR.2.1⟩, hts _ hi, hts _ hs⟩
    ⟨jw_blind, va_recv (jw_K_0 C.2.2.2.2.2.2.2.1.1) hP hc (jw_at_0 hk), fun U hU hW => jw_pre C.2.2.2.2.2.2.2.1 hP hS hU hW⟩ rfl hn hl.1 hst (lv_room h8) hd ⟨hR.2.2.1, hR.2.2.2⟩
  exact jw_back hrun hS (fun r M' H1 locs1 hT hP1 hS1 => hT C H1 locs1 ls hP1 hS1 hl)
theorem jw_callS {g : jw_F} {idx n : Nat} {As St : List Value} (hd : decode f.2.1 pc = .ok (.invokestatic idx, 3)) (ok : jw_ok f.1.cls idx g n) (hi : Cond.static g.1 ∈ jw_ws) (hdep : g.2.2.2.2.1 < f.2.2.2.2.1 ∧ 8 + (g.2.2.1 + 11) + g.2.2.2.2.2 ≤ f.2.2.2.2.2) (hn : As.length = n) (hst : St = As.reverse ++ S) (h8 : (S.map fun v => v.category).sum ≤ 8)
    (h : jw_M l E A g As M (fun r M' => jw_X l X E A f (pc + 3) L (jw_pu g.2.2.2.1 r ++ S) M')) : jw_X l X E A f pc L St M := by
  obtain ⟨p, e, R, s, m, args, below, meth, c, cells, slots, Q⟩ := X
  intro C H locs ls hP hS hl
  have hR := C.2.2.2.2.2.2.2.2
  have hts := C.2.2.2.2.2.1
  have hrun := va_runS (cells := cells) (slots := slots) (e := e) (below := below) (meth := meth) (locs := locs) (g := F0 m pc ls St) (rest := S) (Ts := jw_ws) (own := f.1.cls) ⟨C.1, C.2.1, C.2.2.2.1, C.2.2.2.2.1, hts⟩ h
    ⟨callB_of n hts (jw_good ok.2.2.1) rfl rfl rfl (hts _ ok.2.1) (hts _ ok.1) ok.2.2.2 ⟨Nat.le_trans hdep.1 hR.1, Nat.le_trans hdep.2 hR.2.1⟩, hts _ hi⟩
    ⟨jw_blind, fun U hU hW => jw_pre C.2.2.2.2.2.2.2.1 hP hS hU hW⟩ rfl hn hl.1 hst (lv_room h8) hd ⟨hR.2.2.1, hR.2.2.2⟩
  exact jw_back hrun hS (fun r M' H1 locs1 hT hP1 hS1 => hT C H1 locs1 ls hP1 hS1 hl)
/-- System.arraycopy from a cell of the world, or from the static row -/
theorem jw_copy {k0 k1 n0 n1 idx : Nat} {rs0 rs1 : List (Option Nat)} {sp dp n : Int32} (hd : decode f.2.1 pc = .ok (.invokestatic idx, 3)) (w1 : Cond.methodLink f.1.cls idx arraycopyName ∈ jw_ws) (w2 : Cond.native arraycopyName ∈ jw_ws) (w3 : Cond.static arraycopyName ∈ jw_ws) (w4 : Cond.initialized "java/lang/System" ∈ jw_ws) (hk0 : E.2.2.2.1[k0]? = some (1, n0, rs0)) (hk1 : E.2.2.2.1[k1]? = some (1, n1, rs1)) (h1 : ¬ sp < 0) (h2 : ¬ dp < 0) (h3 : ¬ n < 0) (h4 : sp.toNatClampNeg + n.toNatClampNeg ≤ n0) (h5 : dp.toNatClampNeg + n.toNatClampNeg ≤ n1) (h6 : 1 ≤ f.2.2.2.2.1 ∧ 26 ≤ f.2.2.2.2.2) (h8 : (S.map fun v => v.category).sum ≤ 8)
    (h : jw_X l X E A f (pc + 3) L S (jw_UA M k1 (va_cpy (M k0) (M k1) sp.toNatClampNeg dp.toNatClampNeg n.toNatClampNeg))) : jw_X l X E A f pc L (.int n :: .int dp :: .ref (E.2.2.1 k1) :: .int sp :: .ref (E.2.2.1 k0) :: S) M := by
  obtain ⟨p, e, R, s, m, args, below, meth, c, cells, slots, Q⟩ := X
  intro C H locs ls hP hS hl
  have hR := C.2.2.2.2.2.2.2.2
  have hts := C.2.2.2.2.2.1
  have hw : (S.map fun v => v.category).sum + (nativeFrameWords "java/lang/System" "arraycopy" 5 + 11) ≤ R.locals := by
    have h9 : nativeFrameWords "java/lang/System" "arraycopy" 5 = 7 := by decide +kernel
    rw [h9]
    have := hR.2.1
    have := h6.2
    omega
  refine va_copyi (ty := .int) C.1 C.2.1 (C.2.2.2.1.trans hl.1.symm) C.2.2.2.2.1 (hts _ w1) (hts _ w2) (hts _ w3) (hts _ w4) (jw_K_2 C.2.2.2.2.2.2.2.1.1 hk0 (by decide) hk1 (by decide)) hP (jw_D_va C.2.2.2.2.2.2.2.1.2.2 M) hS k0 k1 0 1 (jw_at_1 hk0) (jw_at_1 hk1) rfl rfl rfl h1 h2 h3 h4 h5 (fun _ _ => rfl) (Nat.le_trans h6.1 hR.1) hw hd (fun H1 locs1 hP1 hD1 hS1 => ?_)
  rw [jw_set_1 hk1] at hP1
  exact h C H1 locs1 ls hP1 hS1 hl
end JR
/-! Rules with plain numbers as places; the world of the two systems. -/
section JR2
variable {l : Launch} {X : jw_X0} {E : jw_E} {A : Nat → Prop} {f : jw_F} {pc : Nat} {L : List (Option Value)} {S : List Value} {M : jw_Mem}
theorem jw_cl {j n : Nat} {i : Int32} (hn : n < 2147483648) (h : j < n ∧ i = nI j) : i.toNatClampNeg = j := by
  rw [h.2]
  exact nI_clamp (by omega)
theorem jw_inb {j n : Nat} {i : Int32} (hn : n < 2147483648) (h : j < n ∧ i = nI j) : vp_in i n := by
  rw [h.2]
  exact vp_in_nI h.1 (by omega)
theorem jw_iald2 {k n j : Nat} {rs : List (Option Nat)} {i : Int32} (hd : decode f.2.1 pc = .ok (.iaload, 1)) (hk : E.2.2.2.1[k]? = some (1, n, rs)) (hn : n < 2147483648) (hj : j < n ∧ i = nI j) (h : jw_X l X E A f (pc + 1) L (.int (M k j) :: S) M) : jw_X l X E A f pc L (.int i :: .ref (E.2.2.1 k) :: S) M := jw_iald hd hk (jw_inb hn hj) (by rw [jw_cl hn hj]; exact h)
theorem jw_zald2 {k n j : Nat} {rs : List (Option Nat)} {i : Int32} (hd : decode f.2.1 pc = .ok (.baload, 1)) (hk : E.2.2.2.1[k]? = some (2, n, rs)) (hn : n < 2147483648) (hj : j < n ∧ i = nI j) (h : jw_X l X E A f (pc + 1) L (.int (M k j) :: S) M) : jw_X l X E A f pc L (.int i :: .ref (E.2.2.1 k) :: S) M := jw_zald hd hk (jw_inb hn hj) (by rw [jw_cl hn hj]; exact h)
theorem jw_iast2 {k n j : Nat} {rs : List (Option Nat)} {i x : Int32} (hd : decode f.2.1 pc = .ok (.iastore, 1)) (hk : E.2.2.2.1[k]? = some (1, n, rs)) (hn : n < 2147483648) (hj : j < n ∧ i = nI j) (h : jw_X l X E A f (pc + 1) L S (jw_U M k j x)) : jw_X l X E A f pc L (.int x :: .int i :: .ref (E.2.2.1 k) :: S) M := jw_iast hd hk (jw_inb hn hj) (by rw [jw_cl hn hj]; exact h)
theorem jw_b0 : (0 : Int32) = 0 ∨ (0 : Int32) = 1 := Or.inl rfl
theorem jw_b1 : (1 : Int32) = 0 ∨ (1 : Int32) = 1 := Or.inr rfl
theorem jw_nz {x : Int32} (h : x = 0 ∨ x = 1) : vp_nar .boolean x = x := by rcases h with rfl | rfl <;> decide
theorem jw_nb {x : Int32} (h : x = 0 ∨ x = 1) : narrow .boolean (.int x) = .int x := by rcases h with rfl | rfl <;> rfl
theorem jw_fb {x : Int32} (h : x = 0 ∨ x = 1) : fits .boolean (.int x) = true := by rcases h with rfl | rfl <;> rfl
theorem jw_zast2 {k n j : Nat} {rs : List (Option Nat)} {i x : Int32} (hd : decode f.2.1 pc = .ok (.bastore, 1)) (hk : E.2.2.2.1[k]? = some (2, n, rs)) (hn : n < 2147483648) (hj : j < n ∧ i = nI j) (hx : x = 0 ∨ x = 1) (h : jw_X l X E A f (pc + 1) L S (jw_U M k j x)) : jw_X l X E A f pc L (.int x :: .int i :: .ref (E.2.2.1 k) :: S) M := jw_zast hd hk (jw_inb hn hj) (jw_nz hx) (by rw [jw_cl hn hj]; exact h)
theorem jw_sld2 {b n j : Nat} {xs : Nat → Int32} {i : Int32} (hd : decode f.2.1 pc = .ok (.iaload, 1)) (hX : jw_scr X A b n xs) (hj : j < n ∧ n < 2147483648 ∧ i = nI j) (h : jw_X l X E A f (pc + 1) L (.int (xs j) :: S) M) : jw_X l X E A f pc L (.int i :: .ref b :: S) M := jw_sld hd hX (jw_inb hj.2.1 ⟨hj.1, hj.2.2⟩) (by rw [jw_cl hj.2.1 ⟨hj.1, hj.2.2⟩]; exact h)
theorem jw_copy2 {k0 k1 n1 idx j : Nat} {rs0 rs1 : List (Option Nat)} {dp : Int32} (hd : decode f.2.1 pc = .ok (.invokestatic idx, 3)) (w1 : Cond.methodLink f.1.cls idx arraycopyName ∈ jw_ws) (w2 : Cond.native arraycopyName ∈ jw_ws) (w3 : Cond.static arraycopyName ∈ jw_ws) (w4 : Cond.initialized "java/lang/System" ∈ jw_ws) (hk0 : E.2.2.2.1[k0]? = some (1, 5, rs0)) (hk1 : E.2.2.2.1[k1]? = some (1, n1, rs1)) (hn : n1 < 2147483648) (hj : j + 5 ≤ n1 ∧ dp = nI j) (h6 : 1 ≤ f.2.2.2.2.1 ∧ 26 ≤ f.2.2.2.2.2) (h8 : (S.map fun v => v.category).sum ≤ 8)
    (h : jw_X l X E A f (pc + 3) L S (jw_UA M k1 (va_cpy (M k0) (M k1) 0 j 5))) : jw_X l X E A f pc L (.int 5 :: .int dp :: .ref (E.2.2.1 k1) :: .int 0 :: .ref (E.2.2.1 k0) :: S) M := by
  have e1 : dp.toNatClampNeg = j := by rw [hj.2]; exact nI_clamp (by omega)
  have e2 : (0 : Int32).toNatClampNeg = 0 := by decide
  have e3 : (5 : Int32).toNatClampNeg = 5 := by decide
  refine jw_copy hd w1 w2 w3 w4 hk0 hk1 (by decide) (by rw [hj.2]; exact nI_pos (by omega)) (by decide) (by rw [e2, e3]; exact Nat.le_refl 5) (by rw [e1, e3]; exact hj.1) h6 h8 ?_
  rw [e1, e2, e3]
  exact h
theorem jw_st {S' : List Value} (e : S = S') (h : jw_X l X E A f pc L S' M) : jw_X l X E A f pc L S M := by rw [e]; exact h
theorem jw_forget (i : Nat) (h : jw_X l X E A f pc (L.set i none) S M) : jw_X l X E A f pc L S M := by
  obtain ⟨p, e, R, s, m, args, below, meth, c, cells, slots, Q⟩ := X
  intro C H locs ls hP hS hl
  refine h C H locs ls hP hS ⟨hl.1, hl.2.1, fun j v hj => hl.2.2 j v ?_⟩
  by_cases e : j = i
  · subst e
    have hlt : j < (L.set j none).length := (List.getElem?_eq_some_iff.mp hj).1
    rw [List.length_set] at hlt
    rw [List.getElem?_set_self hlt] at hj
    cases hj
  · rw [List.getElem?_set_ne (Ne.symm e)] at hj
    exact hj
end JR2
/-- what is not the table of the cells: class numbers and slots, class number of each array cell, addresses, the static row -/
abbrev jw_G : Type := va_G × (Nat → ClassId) × (Nat → Nat) × Nat
section JR3
variable {l : Launch} {X : jw_X0} {E : jw_E} {A : Nat → Prop} {f : jw_F} {pc : Nat} {L : List (Option Value)} {S : List Value} {M : jw_Mem}
theorem jw_pos {z : Int32} (h : ¬ z < 0) : z.toInt = (z.toNatClampNeg : Int) := by
  have h1 := Int32.le_iff_toInt_le.mp (Int32.not_lt.mp h)
  have h2 : (0 : Int32).toInt = 0 := by decide
  show z.toInt = ((z.toInt.toNat : Nat) : Int)
  omega
/-- System.arraycopy of five ints from the static row -/
theorem jw_copyZ2 {t k1 n1 idx j : Nat} {rs1 : List (Option Nat)} {dp : Int32} (hd : decode f.2.1 pc = .ok (.invokestatic idx, 3)) (w1 : Cond.methodLink f.1.cls idx arraycopyName ∈ jw_ws) (w2 : Cond.native arraycopyName ∈ jw_ws) (w3 : Cond.static arraycopyName ∈ jw_ws) (w4 : Cond.initialized "java/lang/System" ∈ jw_ws) (ht : E.2.2.2.2 = some t) (hk1 : E.2.2.2.1[k1]? = some (1, n1, rs1)) (hn : n1 < 2147483648) (hj : j + 5 ≤ n1 ∧ dp = nI j) (h6 : 1 ≤ f.2.2.2.2.1 ∧ 26 ≤ f.2.2.2.2.2) (h8 : (S.map fun v => v.category).sum ≤ 8)
    (h : jw_X l X E A f (pc + 3) L S (jw_UA M k1 (va_cpy (fun _ => 0) (M k1) 0 j 5))) : jw_X l X E A f pc L (.int 5 :: .int dp :: .ref (E.2.2.1 k1) :: .int 0 :: .ref t :: S) M := by
  obtain ⟨p, e, R, s, m, args, below, meth, c, cells, slots, Q⟩ := X
  intro C H locs ls hP hS hl
  have hR := C.2.2.2.2.2.2.2.2
  have hts := C.2.2.2.2.2.1
  have hS8 := C.2.2.2.2.2.2.2.1
  have e1 : dp.toNatClampNeg = j := by rw [hj.2]; exact nI_clamp (by omega)
  have e2 : (0 : Int32).toNatClampNeg = 0 := by decide
  have e3 : (5 : Int32).toNatClampNeg = 5 := by decide
  have hdp : ¬ dp < 0 := by rw [hj.2]; exact nI_pos (by omega)
  have i0 : (0 : Int32).toInt = 0 := by decide
  have i5 : (5 : Int32).toInt = 5 := by decide
  have ij : dp.toInt = (j : Int) := by rw [jw_pos hdp, e1]
  obtain ⟨scr, hs1, ⟨hs2, k0, hk0, cm0, hkk0⟩, hs3, hs4, -, hs6, hs7⟩ := (hS8.2.1 t ht).2
  have hK := jw_K_1 hS8.1 hk1 (by decide)
  have hD := jw_D_va hS8.2.2 M
  have ha1 := jw_at_1 (M := M) hk1
  have hc0 : H[t]? = some scr := by rw [hS.2.1 t (Array.getElem?_eq_some_iff.mp hs1).1 hs7]; exact hs1
  have hc1 : H[E.2.2.1 k1]? = some (vp_cell (E.2.1 k1) (n1, .inl (M k1))) := hP k1 _ ha1
  obtain ⟨-, kk1, hkk1, cm1, hkind1⟩ := (hK.2 0 _ rfl).1 n1 (fun i => .int (M k1 i))
  have h9 : nativeFrameWords "java/lang/System" "arraycopy" 5 = 7 := by decide +kernel
  intro T hT Y
  obtain ⟨vm', Y', step⟩ := Y.arraycopy C.1 C.2.2.2.2.1 (hts _ w1) (hts _ w2) (hts _ w3) (hts _ w4) (src := t) (dst := E.2.2.1 k1) (cs := scr) (cd := vp_cell (E.2.1 k1) (n1, .inl (M k1))) (srcPos := 0) (destPos := dp) (n := 5) (by rw [hT]; exact hc0) (by rw [hT]; exact hc1)
    hs2 (fun _ h => by cases h) hs3 (fun h => by cases h) hk0 hkk1 hkk0 hkind1 (by simp [refKind, jw_ty]) (by decide) hdp (by decide)
    (by rw [i0, i5]; omega)
    (by rw [ij, i5]; show ¬ _ > ((arrV (E.2.1 k1) n1 (fun i => .int (M k1 i))).slots.size : Int); rw [arrV_size]; omega)
    (fun vm₁ _ i hi => by
      rw [e3] at hi
      have ee : scr.slots.getD ((0 : Int32).toNatClampNeg + i) .null = .int 0 := by
        rw [Array.getD_eq_getD_getElem?, e2, Nat.zero_add, hs6 i hi]
        rfl
      refine ⟨?_, ?_⟩
      · rw [ee]; rfl
      · rw [ee]; exact trivial)
    (g := F0 m pc ls (.int 5 :: .int dp :: .ref (E.2.2.1 k1) :: .int 0 :: .ref t :: S)) rfl (hl.1.trans C.2.2.2.1.symm) (rest := S) rfl (by rw [C.2.1]; exact hd) (Nat.le_trans h6.1 hR.1) (by rw [h9]; show 2 * 0 + _ + _ ≤ _; have := hR.2.1; have := h6.2; omega)
  have ec : copied scr (vp_cell (E.2.1 k1) (n1, .inl (M k1))) 0 dp 5 = vp_cell (E.2.1 k1) (n1, .inl (va_cpy (fun _ => 0) (M k1) 0 j 5)) := by
    have := va_copiedX (fun z => Value.int z) scr (E.2.1 k1) (n0 := 5) (n1 := n1) (sp := (0 : Int32).toNatClampNeg) (dp := dp.toNatClampNeg) (n := (5 : Int32).toNatClampNeg) (fun _ => 0) (M k1) hs6 (by rw [e2, e3]; omega)
    rw [e1, e2, e3] at this
    unfold copied
    rw [e1, e2, e3]
    exact this
  rw [ec] at Y' step
  have hlt : E.2.2.1 k1 < H.size := (Array.getElem?_eq_some_iff.mp hc1).1
  have oq : ∀ q : Nat, q ≠ E.2.2.1 k1 → (H.setIfInBounds (E.2.2.1 k1) (vp_cell (E.2.1 k1) (n1, .inl (va_cpy (fun _ => 0) (M k1) 0 j 5))))[q]? = H[q]? := fun q hq => by simp [Array.getElem?_setIfInBounds, Ne.symm hq]
  have hP1 := hP.set hD ha1 (e := .inl (E.2.1 k1, n1, .inl (va_cpy (fun _ => 0) (M k1) 0 j 5))) (show (H.setIfInBounds (E.2.2.1 k1) (vp_cell (E.2.1 k1) (n1, .inl (va_cpy (fun _ => 0) (M k1) 0 j 5))))[E.2.2.1 k1]? = some _ by simp [Array.getElem?_setIfInBounds, hlt]) oq
  rw [jw_set_1 hk1] at hP1
  obtain ⟨t9, a1, b1⟩ := h C _ _ ls hP1 ⟨by simp; exact hS.1, fun q g1 g2 => by
      rw [oq q (fun e => g2 (by rw [e]; exact hD.2 k1 _ ha1))]
      exact hS.2.1 q g1 g2, fun q hq => by
      rcases List.mem_append.mp hq with h | h
      · exact hS.2.2 q h
      · obtain ⟨z, -, hz⟩ := List.mem_map.mp h
        rw [← hz]
        exact hD.2 k1 _ ha1⟩ hl _ (by rw [← hT]; rfl) Y'
  exact ⟨t9, step t9 a1, b1⟩
end JR3
end
