section
-- ===== PART A: goes FIRST, ahead of the names: the tables' words, and 'selects' of the private methods out of them =====
/-- a private method of a class that the tables say can be made, by its rows of tables_1 -/
def lw_okq (q : MethodName × Nat) : Prop := (q.1.cls ≠ "java/lang/invoke/MethodHandle" ∧ q.1.cls ≠ "java/lang/invoke/VarHandle") ∧ Cond.instantiable q.1.cls q.2 ∈ tables_1 ∧ Cond.privateMethod q.1 ∈ tables_1 ∧ Cond.instanceMethod q.1 ∈ tables_1
theorem lw_p0 : lw_okq (⟨"JobStates", "cancelGroup", "(I)V"⟩, 8) := ⟨⟨by decide +kernel, by decide +kernel⟩, List.mem_of_getElem? (i := 9) (by decide +kernel), List.mem_of_getElem? (i := 130) (by decide +kernel), List.mem_of_getElem? (i := 131) (by decide +kernel)⟩
theorem lw_p1 : lw_okq (⟨"JobStates", "newRun", "(III)LJobStates$Run;"⟩, 8) := ⟨⟨by decide +kernel, by decide +kernel⟩, List.mem_of_getElem? (i := 9) (by decide +kernel), List.mem_of_getElem? (i := 150) (by decide +kernel), List.mem_of_getElem? (i := 151) (by decide +kernel)⟩
theorem lw_p2 : lw_okq (⟨"JobStates", "settle", "()V"⟩, 8) := ⟨⟨by decide +kernel, by decide +kernel⟩, List.mem_of_getElem? (i := 9) (by decide +kernel), List.mem_of_getElem? (i := 235) (by decide +kernel), List.mem_of_getElem? (i := 236) (by decide +kernel)⟩
theorem lw_p3 : lw_okq (⟨"JobStates", "findTask", "(II)LJobStates$Task;"⟩, 8) := ⟨⟨by decide +kernel, by decide +kernel⟩, List.mem_of_getElem? (i := 9) (by decide +kernel), List.mem_of_getElem? (i := 262) (by decide +kernel), List.mem_of_getElem? (i := 263) (by decide +kernel)⟩
theorem lw_p4 : lw_okq (⟨"JobStates", "findRun", "(I)LJobStates$Run;"⟩, 8) := ⟨⟨by decide +kernel, by decide +kernel⟩, List.mem_of_getElem? (i := 9) (by decide +kernel), List.mem_of_getElem? (i := 266) (by decide +kernel), List.mem_of_getElem? (i := 267) (by decide +kernel)⟩
theorem lw_p5 : lw_okq (⟨"JobStates", "findRunner", "(I)LJobStates$Runner;"⟩, 8) := ⟨⟨by decide +kernel, by decide +kernel⟩, List.mem_of_getElem? (i := 9) (by decide +kernel), List.mem_of_getElem? (i := 275) (by decide +kernel), List.mem_of_getElem? (i := 276) (by decide +kernel)⟩
theorem lw_p6 : lw_okq (⟨"JobStates", "nextFor", "(LJobStates$Runner;)LJobStates$Task;"⟩, 8) := ⟨⟨by decide +kernel, by decide +kernel⟩, List.mem_of_getElem? (i := 9) (by decide +kernel), List.mem_of_getElem? (i := 279) (by decide +kernel), List.mem_of_getElem? (i := 280) (by decide +kernel)⟩
theorem lw_p7 : lw_okq (⟨"JobStates", "isServedBefore", "(II)Z"⟩, 8) := ⟨⟨by decide +kernel, by decide +kernel⟩, List.mem_of_getElem? (i := 9) (by decide +kernel), List.mem_of_getElem? (i := 287) (by decide +kernel), List.mem_of_getElem? (i := 288) (by decide +kernel)⟩
theorem lw_p8 : lw_okq (⟨"JobStates", "runningOf", "(I)I"⟩, 8) := ⟨⟨by decide +kernel, by decide +kernel⟩, List.mem_of_getElem? (i := 9) (by decide +kernel), List.mem_of_getElem? (i := 291) (by decide +kernel), List.mem_of_getElem? (i := 292) (by decide +kernel)⟩
theorem lw_p9 : lw_okq (⟨"JobStates", "isAnyRunnerBusy", "()Z"⟩, 8) := ⟨⟨by decide +kernel, by decide +kernel⟩, List.mem_of_getElem? (i := 9) (by decide +kernel), List.mem_of_getElem? (i := 324) (by decide +kernel), List.mem_of_getElem? (i := 325) (by decide +kernel)⟩
theorem lw_p10 : lw_okq (⟨"JobStates", "checkRunners", "()V"⟩, 8) := ⟨⟨by decide +kernel, by decide +kernel⟩, List.mem_of_getElem? (i := 9) (by decide +kernel), List.mem_of_getElem? (i := 328) (by decide +kernel), List.mem_of_getElem? (i := 329) (by decide +kernel)⟩
theorem lw_p11 : lw_okq (⟨"JobStatesModel", "isJob", "(I)Z"⟩, 26) := ⟨⟨by decide +kernel, by decide +kernel⟩, List.mem_of_getElem? (i := 389) (by decide +kernel), List.mem_of_getElem? (i := 484) (by decide +kernel), List.mem_of_getElem? (i := 485) (by decide +kernel)⟩
theorem lw_p12 : lw_okq (⟨"JobStatesModel", "isOver", "(I)Z"⟩, 26) := ⟨⟨by decide +kernel, by decide +kernel⟩, List.mem_of_getElem? (i := 389) (by decide +kernel), List.mem_of_getElem? (i := 500) (by decide +kernel), List.mem_of_getElem? (i := 501) (by decide +kernel)⟩
theorem lw_p13 : lw_okq (⟨"JobStatesModel", "stop", "(I)V"⟩, 26) := ⟨⟨by decide +kernel, by decide +kernel⟩, List.mem_of_getElem? (i := 389) (by decide +kernel), List.mem_of_getElem? (i := 507) (by decide +kernel), List.mem_of_getElem? (i := 508) (by decide +kernel)⟩
theorem lw_p14 : lw_okq (⟨"JobStatesModel", "free", "(I)V"⟩, 26) := ⟨⟨by decide +kernel, by decide +kernel⟩, List.mem_of_getElem? (i := 389) (by decide +kernel), List.mem_of_getElem? (i := 511) (by decide +kernel), List.mem_of_getElem? (i := 512) (by decide +kernel)⟩
theorem lw_p15 : lw_okq (⟨"JobStatesModel", "settle", "()V"⟩, 26) := ⟨⟨by decide +kernel, by decide +kernel⟩, List.mem_of_getElem? (i := 389) (by decide +kernel), List.mem_of_getElem? (i := 515) (by decide +kernel), List.mem_of_getElem? (i := 516) (by decide +kernel)⟩
def lw_privs_1 : List (MethodName × Nat) := [(⟨"JobStates", "cancelGroup", "(I)V"⟩, 8), (⟨"JobStates", "newRun", "(III)LJobStates$Run;"⟩, 8), (⟨"JobStates", "settle", "()V"⟩, 8), (⟨"JobStates", "findTask", "(II)LJobStates$Task;"⟩, 8), (⟨"JobStates", "findRun", "(I)LJobStates$Run;"⟩, 8), (⟨"JobStates", "findRunner", "(I)LJobStates$Runner;"⟩, 8), (⟨"JobStates", "nextFor", "(LJobStates$Runner;)LJobStates$Task;"⟩, 8), (⟨"JobStates", "isServedBefore", "(II)Z"⟩, 8), (⟨"JobStates", "runningOf", "(I)I"⟩, 8), (⟨"JobStates", "isAnyRunnerBusy", "()Z"⟩, 8), (⟨"JobStates", "checkRunners", "()V"⟩, 8), (⟨"JobStatesModel", "isJob", "(I)Z"⟩, 26), (⟨"JobStatesModel", "isOver", "(I)Z"⟩, 26), (⟨"JobStatesModel", "stop", "(I)V"⟩, 26), (⟨"JobStatesModel", "free", "(I)V"⟩, 26), (⟨"JobStatesModel", "settle", "()V"⟩, 26)]
theorem lw_r1 : ∀ q ∈ lw_privs_1, lw_okq q := List.forall_mem_cons.mpr ⟨lw_p0, List.forall_mem_cons.mpr ⟨lw_p1, List.forall_mem_cons.mpr ⟨lw_p2, List.forall_mem_cons.mpr ⟨lw_p3, List.forall_mem_cons.mpr ⟨lw_p4, List.forall_mem_cons.mpr ⟨lw_p5, List.forall_mem_cons.mpr ⟨lw_p6, List.forall_mem_cons.mpr ⟨lw_p7, List.forall_mem_cons.mpr ⟨lw_p8, List.forall_mem_cons.mpr ⟨lw_p9, List.forall_mem_cons.mpr ⟨lw_p10, List.forall_mem_cons.mpr ⟨lw_p11, List.forall_mem_cons.mpr ⟨lw_p12, List.forall_mem_cons.mpr ⟨lw_p13, List.forall_mem_cons.mpr ⟨lw_p14, List.forall_mem_cons.mpr ⟨lw_p15, fun _ h => absurd h List.not_mem_nil⟩⟩⟩⟩⟩⟩⟩⟩⟩⟩⟩⟩⟩⟩⟩⟩
theorem lw_p16 : lw_okq (⟨"JobStatesModel", "becomes", "(II)I"⟩, 26) := ⟨⟨by decide +kernel, by decide +kernel⟩, List.mem_of_getElem? (i := 389) (by decide +kernel), List.mem_of_getElem? (i := 519) (by decide +kernel), List.mem_of_getElem? (i := 520) (by decide +kernel)⟩
theorem lw_p17 : lw_okq (⟨"JobStatesModel", "isApproved", "(I)Z"⟩, 26) := ⟨⟨by decide +kernel, by decide +kernel⟩, List.mem_of_getElem? (i := 389) (by decide +kernel), List.mem_of_getElem? (i := 523) (by decide +kernel), List.mem_of_getElem? (i := 524) (by decide +kernel)⟩
theorem lw_p18 : lw_okq (⟨"JobStatesModel", "isThere", "(II)Z"⟩, 26) := ⟨⟨by decide +kernel, by decide +kernel⟩, List.mem_of_getElem? (i := 389) (by decide +kernel), List.mem_of_getElem? (i := 531) (by decide +kernel), List.mem_of_getElem? (i := 532) (by decide +kernel)⟩
theorem lw_p19 : lw_okq (⟨"JobStatesModel", "isRun", "(I)Z"⟩, 26) := ⟨⟨by decide +kernel, by decide +kernel⟩, List.mem_of_getElem? (i := 389) (by decide +kernel), List.mem_of_getElem? (i := 535) (by decide +kernel), List.mem_of_getElem? (i := 536) (by decide +kernel)⟩
theorem lw_p20 : lw_okq (⟨"JobStatesModel", "isRunner", "(I)Z"⟩, 26) := ⟨⟨by decide +kernel, by decide +kernel⟩, List.mem_of_getElem? (i := 389) (by decide +kernel), List.mem_of_getElem? (i := 543) (by decide +kernel), List.mem_of_getElem? (i := 544) (by decide +kernel)⟩
theorem lw_p21 : lw_okq (⟨"JobStatesModel", "busy", "(I)I"⟩, 26) := ⟨⟨by decide +kernel, by decide +kernel⟩, List.mem_of_getElem? (i := 389) (by decide +kernel), List.mem_of_getElem? (i := 547) (by decide +kernel), List.mem_of_getElem? (i := 548) (by decide +kernel)⟩
theorem lw_p22 : lw_okq (⟨"JobStatesModel", "failTry", "(I)V"⟩, 26) := ⟨⟨by decide +kernel, by decide +kernel⟩, List.mem_of_getElem? (i := 389) (by decide +kernel), List.mem_of_getElem? (i := 559) (by decide +kernel), List.mem_of_getElem? (i := 560) (by decide +kernel)⟩
theorem lw_p23 : lw_okq (⟨"JobStatesModel", "pass", "(I)V"⟩, 26) := ⟨⟨by decide +kernel, by decide +kernel⟩, List.mem_of_getElem? (i := 389) (by decide +kernel), List.mem_of_getElem? (i := 567) (by decide +kernel), List.mem_of_getElem? (i := 568) (by decide +kernel)⟩
theorem lw_p24 : lw_okq (⟨"JobStatesModel", "runnerOf", "(I)I"⟩, 26) := ⟨⟨by decide +kernel, by decide +kernel⟩, List.mem_of_getElem? (i := 389) (by decide +kernel), List.mem_of_getElem? (i := 571) (by decide +kernel), List.mem_of_getElem? (i := 572) (by decide +kernel)⟩
def lw_privs_2 : List (MethodName × Nat) := [(⟨"JobStatesModel", "becomes", "(II)I"⟩, 26), (⟨"JobStatesModel", "isApproved", "(I)Z"⟩, 26), (⟨"JobStatesModel", "isThere", "(II)Z"⟩, 26), (⟨"JobStatesModel", "isRun", "(I)Z"⟩, 26), (⟨"JobStatesModel", "isRunner", "(I)Z"⟩, 26), (⟨"JobStatesModel", "busy", "(I)I"⟩, 26), (⟨"JobStatesModel", "failTry", "(I)V"⟩, 26), (⟨"JobStatesModel", "pass", "(I)V"⟩, 26), (⟨"JobStatesModel", "runnerOf", "(I)I"⟩, 26)]
theorem lw_r2 : ∀ q ∈ lw_privs_2, lw_okq q := List.forall_mem_cons.mpr ⟨lw_p16, List.forall_mem_cons.mpr ⟨lw_p17, List.forall_mem_cons.mpr ⟨lw_p18, List.forall_mem_cons.mpr ⟨lw_p19, List.forall_mem_cons.mpr ⟨lw_p20, List.forall_mem_cons.mpr ⟨lw_p21, List.forall_mem_cons.mpr ⟨lw_p22, List.forall_mem_cons.mpr ⟨lw_p23, List.forall_mem_cons.mpr ⟨lw_p24, fun _ h => absurd h List.not_mem_nil⟩⟩⟩⟩⟩⟩⟩⟩⟩
def lw_privs : List (MethodName × Nat) := lw_privs_1 ++ (lw_privs_2)
def lw_tbl : List Cond := k2_sels lw_privs ++ tables_1
theorem lw_privs_ok : ∀ q ∈ lw_privs, lw_okq q := by
  show ∀ q ∈ lw_privs_1 ++ (lw_privs_2), lw_okq q
  exact List.forall_mem_append.mpr ⟨lw_r1, lw_r2⟩
-- ===== end of PART A; then your names; then what follows =====
end
section
/-! names and tables, by program (wip/whole/names.py) out of the claim's own words and listing -/
def xt_ws : List Cond := lw_tbl.filter goodWord
theorem xt_in (i : Nat) {w : Cond} (h : lw_tbl[i]? = some w) (hg : goodWord w = true) : w ∈ xt_ws := List.mem_filter.mpr ⟨List.mem_of_getElem? h, hg⟩
theorem xt_good : ∀ w ∈ xt_ws, (w.onTables && w.keeps) = true ∨ ∃ ty, w = .arrayClass ty := fun _ h => good_of_word (List.mem_filter.mp h).2
def xT0 : u_T := fun k => match k with
  | 0 => ("JobStates$Job", "labels", "I", true)
  | 1 => ("JobStates$Job", "limit", "I", true)
  | 2 => ("JobStates$Job", "retries", "I", true)
  | 3 => ("JobStates$Job", "always", "Z", true)
  | 4 => ("JobStates$Job", "approval", "Z", true)
  | _ => ("JobStates$Job", "needed", "I", false)
def xy0 : Nat → FieldType := fun k => match k with
  | 0 => .int
  | 1 => .int
  | 2 => .int
  | 3 => .boolean
  | 4 => .boolean
  | _ => .int
theorem xn0 : ∀ a, a < 6 → ∀ b, b < 6 → a ≠ b → (xT0 a).2.1 ≠ (xT0 b).2.1 := by decide +kernel
theorem xp0 : ∀ k, k < 6 → parseFieldDescriptor (xT0 k).2.2.1 = some (xy0 k) := by decide +kernel
theorem xw0 : ∀ w ∈ u_ws "JobStates$Job" xT0 6, w ∈ xt_ws := by
  intro w hw
  have e : u_ws "JobStates$Job" xT0 6 = [94, 96, 98, 100, 102, 104].filterMap (fun i => lw_tbl[i]?) := by decide +kernel
  have g : (u_ws "JobStates$Job" xT0 6).all goodWord = true := by decide +kernel
  have hg := List.all_eq_true.mp g w hw
  rw [e] at hw
  obtain ⟨i, -, hi⟩ := List.mem_filterMap.mp hw
  exact xt_in i hi hg
def xT1 : u_T := fun k => match k with
  | 0 => ("JobStates$Run", "number", "I", true)
  | 1 => ("JobStates$Run", "person", "I", true)
  | 2 => ("JobStates$Run", "group", "I", true)
  | 3 => ("JobStates$Run", "tasks", "[LJobStates$Task;", true)
  | _ => ("JobStates$Run", "cancelled", "Z", false)
def xy1 : Nat → FieldType := fun k => match k with
  | 0 => .int
  | 1 => .int
  | 2 => .int
  | 3 => .array (.object "JobStates$Task")
  | _ => .boolean
theorem xn1 : ∀ a, a < 5 → ∀ b, b < 5 → a ≠ b → (xT1 a).2.1 ≠ (xT1 b).2.1 := by decide +kernel
theorem xp1 : ∀ k, k < 5 → parseFieldDescriptor (xT1 k).2.2.1 = some (xy1 k) := by decide +kernel
theorem xw1 : ∀ w ∈ u_ws "JobStates$Run" xT1 5, w ∈ xt_ws := by
  intro w hw
  have e : u_ws "JobStates$Run" xT1 5 = [195, 197, 199, 201, 203].filterMap (fun i => lw_tbl[i]?) := by decide +kernel
  have g : (u_ws "JobStates$Run" xT1 5).all goodWord = true := by decide +kernel
  have hg := List.all_eq_true.mp g w hw
  rw [e] at hw
  obtain ⟨i, -, hi⟩ := List.mem_filterMap.mp hw
  exact xt_in i hi hg
def xT2 : u_T := fun k => match k with
  | 0 => ("JobStates$Runner", "number", "I", true)
  | 1 => ("JobStates$Runner", "labels", "I", true)
  | 2 => ("JobStates$Runner", "beat", "I", false)
  | _ => ("JobStates$Runner", "task", "LJobStates$Task;", false)
def xy2 : Nat → FieldType := fun k => match k with
  | 0 => .int
  | 1 => .int
  | 2 => .int
  | _ => .object "JobStates$Task"
theorem xn2 : ∀ a, a < 4 → ∀ b, b < 4 → a ≠ b → (xT2 a).2.1 ≠ (xT2 b).2.1 := by decide +kernel
theorem xp2 : ∀ k, k < 4 → parseFieldDescriptor (xT2 k).2.2.1 = some (xy2 k) := by decide +kernel
theorem xw2 : ∀ w ∈ u_ws "JobStates$Runner" xT2 4, w ∈ xt_ws := by
  intro w hw
  have e : u_ws "JobStates$Runner" xT2 4 = [134, 136, 138, 140].filterMap (fun i => lw_tbl[i]?) := by decide +kernel
  have g : (u_ws "JobStates$Runner" xT2 4).all goodWord = true := by decide +kernel
  have hg := List.all_eq_true.mp g w hw
  rw [e] at hw
  obtain ⟨i, -, hi⟩ := List.mem_filterMap.mp hw
  exact xt_in i hi hg
def xT3 : u_T := fun k => match k with
  | 0 => ("JobStates$Task", "run", "LJobStates$Run;", true)
  | 1 => ("JobStates$Task", "number", "I", true)
  | 2 => ("JobStates$Task", "job", "LJobStates$Job;", true)
  | 3 => ("JobStates$Task", "state", "I", false)
  | 4 => ("JobStates$Task", "runner", "LJobStates$Runner;", false)
  | 5 => ("JobStates$Task", "startedAt", "I", false)
  | 6 => ("JobStates$Task", "approvals", "I", false)
  | 7 => ("JobStates$Task", "artefact", "I", false)
  | 8 => ("JobStates$Task", "triesBegun", "I", false)
  | 9 => ("JobStates$Task", "timesLost", "I", false)
  | 10 => ("JobStates$Task", "failedTriesSinceWaiting", "I", false)
  | _ => ("JobStates$Task", "lostSinceWaiting", "Z", false)
def xy3 : Nat → FieldType := fun k => match k with
  | 0 => .object "JobStates$Run"
  | 1 => .int
  | 2 => .object "JobStates$Job"
  | 3 => .int
  | 4 => .object "JobStates$Runner"
  | 5 => .int
  | 6 => .int
  | 7 => .int
  | 8 => .int
  | 9 => .int
  | 10 => .int
  | _ => .boolean
theorem xn3 : ∀ a, a < 12 → ∀ b, b < 12 → a ≠ b → (xT3 a).2.1 ≠ (xT3 b).2.1 := by decide +kernel
theorem xp3 : ∀ k, k < 12 → parseFieldDescriptor (xT3 k).2.2.1 = some (xy3 k) := by decide +kernel
theorem xw3 : ∀ w ∈ u_ws "JobStates$Task" xT3 12, w ∈ xt_ws := by
  intro w hw
  have e : u_ws "JobStates$Task" xT3 12 = [234, 236, 238, 240, 242, 244, 246, 248, 250, 252, 254, 256].filterMap (fun i => lw_tbl[i]?) := by decide +kernel
  have g : (u_ws "JobStates$Task" xT3 12).all goodWord = true := by decide +kernel
  have hg := List.all_eq_true.mp g w hw
  rw [e] at hw
  obtain ⟨i, -, hi⟩ := List.mem_filterMap.mp hw
  exact xt_in i hi hg
def xT4 : u_T := fun k => match k with
  | 0 => ("JobStates", "jobs", "[LJobStates$Job;", true)
  | 1 => ("JobStates", "runners", "[LJobStates$Runner;", true)
  | 2 => ("JobStates", "runs", "[LJobStates$Run;", true)
  | 3 => ("JobStates", "jobCount", "I", false)
  | 4 => ("JobStates", "runnerCount", "I", false)
  | 5 => ("JobStates", "runCount", "I", false)
  | 6 => ("JobStates", "clock", "I", false)
  | _ => ("JobStates", "lostTime", "I", false)
def xy4 : Nat → FieldType := fun k => match k with
  | 0 => .array (.object "JobStates$Job")
  | 1 => .array (.object "JobStates$Runner")
  | 2 => .array (.object "JobStates$Run")
  | 3 => .int
  | 4 => .int
  | 5 => .int
  | 6 => .int
  | _ => .int
theorem xn4 : ∀ a, a < 8 → ∀ b, b < 8 → a ≠ b → (xT4 a).2.1 ≠ (xT4 b).2.1 := by decide +kernel
theorem xp4 : ∀ k, k < 8 → parseFieldDescriptor (xT4 k).2.2.1 = some (xy4 k) := by decide +kernel
theorem xw4 : ∀ w ∈ u_ws "JobStates" xT4 8, w ∈ xt_ws := by
  intro w hw
  have e : u_ws "JobStates" xT4 8 = [55, 57, 59, 61, 63, 65, 67, 69].filterMap (fun i => lw_tbl[i]?) := by decide +kernel
  have g : (u_ws "JobStates" xT4 8).all goodWord = true := by decide +kernel
  have hg := List.all_eq_true.mp g w hw
  rw [e] at hw
  obtain ⟨i, -, hi⟩ := List.mem_filterMap.mp hw
  exact xt_in i hi hg
def xT5 : u_T := fun k => match k with
  | 0 => ("JobStatesModel", "code", "I", false)
  | 1 => ("JobStatesModel", "clock", "I", false)
  | 2 => ("JobStatesModel", "lostAt", "I", false)
  | 3 => ("JobStatesModel", "jobs", "I", false)
  | 4 => ("JobStatesModel", "runs", "I", false)
  | 5 => ("JobStatesModel", "runners", "I", false)
  | 6 => ("JobStatesModel", "labels", "[I", true)
  | 7 => ("JobStatesModel", "limit", "[I", true)
  | 8 => ("JobStatesModel", "retries", "[I", true)
  | 9 => ("JobStatesModel", "need", "[I", true)
  | 10 => ("JobStatesModel", "always", "[Z", true)
  | 11 => ("JobStatesModel", "wants", "[Z", true)
  | 12 => ("JobStatesModel", "person", "[I", true)
  | 13 => ("JobStatesModel", "group", "[I", true)
  | 14 => ("JobStatesModel", "isCancelled", "[Z", true)
  | 15 => ("JobStatesModel", "state", "[I", true)
  | 16 => ("JobStatesModel", "since", "[I", true)
  | 17 => ("JobStatesModel", "tries", "[I", true)
  | 18 => ("JobStatesModel", "failures", "[I", true)
  | 19 => ("JobStatesModel", "losses", "[I", true)
  | 20 => ("JobStatesModel", "lossesNow", "[I", true)
  | 21 => ("JobStatesModel", "artefact", "[I", true)
  | 22 => ("JobStatesModel", "approvals", "[I", true)
  | 23 => ("JobStatesModel", "runnerLabels", "[I", true)
  | 24 => ("JobStatesModel", "beat", "[I", true)
  | _ => ("JobStatesModel", "has", "[I", true)
def xy5 : Nat → FieldType := fun k => match k with
  | 0 => .int
  | 1 => .int
  | 2 => .int
  | 3 => .int
  | 4 => .int
  | 5 => .int
  | 6 => .array (.int)
  | 7 => .array (.int)
  | 8 => .array (.int)
  | 9 => .array (.int)
  | 10 => .array (.boolean)
  | 11 => .array (.boolean)
  | 12 => .array (.int)
  | 13 => .array (.int)
  | 14 => .array (.boolean)
  | 15 => .array (.int)
  | 16 => .array (.int)
  | 17 => .array (.int)
  | 18 => .array (.int)
  | 19 => .array (.int)
  | 20 => .array (.int)
  | 21 => .array (.int)
  | 22 => .array (.int)
  | 23 => .array (.int)
  | 24 => .array (.int)
  | _ => .array (.int)
theorem xn5 : ∀ a, a < 26 → ∀ b, b < 26 → a ≠ b → (xT5 a).2.1 ≠ (xT5 b).2.1 := by decide +kernel
theorem xp5 : ∀ k, k < 26 → parseFieldDescriptor (xT5 k).2.2.1 = some (xy5 k) := by decide +kernel
theorem xw5 : ∀ w ∈ u_ws "JobStatesModel" xT5 26, w ∈ xt_ws := by
  intro w hw
  have e : u_ws "JobStatesModel" xT5 26 = [445, 447, 449, 451, 453, 455, 457, 459, 461, 463, 465, 467, 469, 471, 473, 475, 477, 479, 481, 483, 485, 487, 489, 491, 493, 495].filterMap (fun i => lw_tbl[i]?) := by decide +kernel
  have g : (u_ws "JobStatesModel" xT5 26).all goodWord = true := by decide +kernel
  have hg := List.all_eq_true.mp g w hw
  rw [e] at hw
  obtain ⟨i, -, hi⟩ := List.mem_filterMap.mp hw
  exact xt_in i hi hg
def xt_nm : Nat → String := fun k => match k with
  | 0 => "JobStates$Job"
  | 1 => "JobStates$Run"
  | 2 => "JobStates$Runner"
  | 3 => "JobStates$Task"
  | 4 => "JobStates"
  | 5 => "JobStatesModel"
  | 6 => "JobStatesLaw"
  | _ => "java/lang/Integer"
abbrev xt_cl : List vw_C := [("JobStates$Job", xT0, 6), ("JobStates$Run", xT1, 5), ("JobStates$Runner", xT2, 4), ("JobStates$Task", xT3, 12), ("JobStates", xT4, 8), ("JobStatesModel", xT5, 26)]
def xt_ty : Nat → Nat → FieldType := fun c => match c with
  | 0 => xy0
  | 1 => xy1
  | 2 => xy2
  | 3 => xy3
  | 4 => xy4
  | _ => xy5
abbrev xt_at : List FieldType := [.int, .boolean, .object "JobStates$Job", .object "JobStates$Runner", .object "JobStates$Run", .object "JobStates$Task"]
theorem xt_cl_ok {ci : Nat} {C : String} {T : u_T} {N : Nat} (h : xt_cl[ci]? = some (C, T, N)) : (∀ w ∈ u_ws C T N, w ∈ xt_ws) ∧ (∀ k, k < N → parseFieldDescriptor (T k).2.2.1 = some (xt_ty ci k)) ∧ (∀ a, a < N → ∀ b, b < N → a ≠ b → (T a).2.1 ≠ (T b).2.1) ∧ Cond.instantiable C N ∈ xt_ws ∧ Cond.initialized C ∈ xt_ws := by
  match ci, h with
  | 0, h => cases h; exact ⟨xw0, xp0, xn0, xt_in 76 (by decide +kernel) rfl, xt_in 28 (by decide +kernel) rfl⟩
  | 1, h => cases h; exact ⟨xw1, xp1, xn1, xt_in 178 (by decide +kernel) rfl, xt_in 30 (by decide +kernel) rfl⟩
  | 2, h => cases h; exact ⟨xw2, xp2, xn2, xt_in 119 (by decide +kernel) rfl, xt_in 29 (by decide +kernel) rfl⟩
  | 3, h => cases h; exact ⟨xw3, xp3, xn3, xt_in 207 (by decide +kernel) rfl, xt_in 31 (by decide +kernel) rfl⟩
  | 4, h => cases h; exact ⟨xw4, xp4, xn4, xt_in 34 (by decide +kernel) rfl, xt_in 26 (by decide +kernel) rfl⟩
  | 5, h => cases h; exact ⟨xw5, xp5, xn5, xt_in 414 (by decide +kernel) rfl, xt_in 27 (by decide +kernel) rfl⟩
  | k + 6, h => simp [xt_cl] at h
def xt_fin (ci k : Nat) : Bool := match xt_cl[ci]? with
  | some q => (q.2.1 k).2.2.2
  | none => true
def xt_dec (ci k : Nat) : String := match xt_cl[ci]? with
  | some q => (q.2.1 k).1
  | none => ""
def xt_dflt (ci : Nat) : List Value := match xt_cl[ci]? with
  | some q => (List.range q.2.2).map (fun k => defaultValue (xt_ty ci k))
  | none => []
/-- a method: its name, code, locals, answer, the number of its class, how many it takes (the receiver apart) -/
abbrev xm_M : Type := MethodName × ByteArray × Nat × Option FieldType × Nat × Nat
abbrev xt_y (y : xm_M) : MethodName := y.1
abbrev xt_code (y : xm_M) : ByteArray := y.2.1
abbrev xt_maxL (y : xm_M) : Nat := y.2.2.1
abbrev xt_ret (y : xm_M) : Option FieldType := y.2.2.2.1
abbrev xt_own (y : xm_M) : Nat := y.2.2.2.2.1
abbrev xt_np (y : xm_M) : Nat := y.2.2.2.2.2
abbrev xt_LM : Nat := 30
def m_S_init : xm_M := (⟨"JobStates", "<init>", "()V"⟩, prog_1_method_1_code, 1, none, 4, 0)
def m_S_job : xm_M := (⟨"JobStates", "job", "(IIIZZ)I"⟩, prog_1_method_2_code, 7, (some (.int)), 4, 5)
def m_Job_init : xm_M := (⟨"JobStates$Job", "<init>", "(IIIZZ)V"⟩, prog_2_method_1_code, 6, none, 0, 5)
def m_S_needs : xm_M := (⟨"JobStates", "needs", "(II)Z"⟩, prog_1_method_3_code, 4, (some (.boolean)), 4, 2)
def m_Job_isNeeding : xm_M := (⟨"JobStates$Job", "isNeeding", "(I)Z"⟩, prog_2_method_2_code, 2, (some (.boolean)), 0, 1)
def m_S_runner : xm_M := (⟨"JobStates", "runner", "(I)I"⟩, prog_1_method_4_code, 3, (some (.int)), 4, 1)
def m_Rnr_init : xm_M := (⟨"JobStates$Runner", "<init>", "(III)V"⟩, prog_4_method_1_code, 4, none, 2, 3)
def m_S_lost : xm_M := (⟨"JobStates", "lost", "(I)Z"⟩, prog_1_method_5_code, 2, (some (.boolean)), 4, 1)
def m_S_trigger : xm_M := (⟨"JobStates", "trigger", "(II)I"⟩, prog_1_method_6_code, 4, (some (.int)), 4, 2)
def m_S_isPerson : xm_M := (⟨"JobStates", "isPerson", "(I)Z"⟩, prog_1_method_18_code, 1, (some (.boolean)), 4, 1)
def m_S_cancelGroup : xm_M := (⟨"JobStates", "cancelGroup", "(I)V"⟩, prog_1_method_23_code, 3, none, 4, 1)
def m_Run_isOver : xm_M := (⟨"JobStates$Run", "isOver", "()Z"⟩, prog_3_method_2_code, 2, (some (.boolean)), 1, 0)
def m_Tsk_isEnded : xm_M := (⟨"JobStates$Task", "isEnded", "()Z"⟩, prog_5_method_3_code, 1, (some (.boolean)), 3, 0)
def m_Run_cancelAll : xm_M := (⟨"JobStates$Run", "cancelAll", "()V"⟩, prog_3_method_5_code, 2, none, 1, 0)
def m_Tsk_leaveRunner : xm_M := (⟨"JobStates$Task", "leaveRunner", "()V"⟩, prog_5_method_8_code, 1, none, 3, 0)
def m_S_newRun : xm_M := (⟨"JobStates", "newRun", "(III)LJobStates$Run;"⟩, prog_1_method_22_code, 6, (some (.object "JobStates$Run")), 4, 3)
def m_Run_init : xm_M := (⟨"JobStates$Run", "<init>", "(IIII)V"⟩, prog_3_method_1_code, 5, none, 1, 4)
def m_Tsk_init : xm_M := (⟨"JobStates$Task", "<init>", "(LJobStates$Run;ILJobStates$Job;)V"⟩, prog_5_method_1_code, 4, none, 3, 3)
def m_S_settle : xm_M := (⟨"JobStates", "settle", "()V"⟩, prog_1_method_24_code, 2, none, 4, 0)
def m_Run_settleTasks : xm_M := (⟨"JobStates$Run", "settleTasks", "()V"⟩, prog_3_method_7_code, 2, none, 1, 0)
def m_Run_stateAfterWaiting : xm_M := (⟨"JobStates$Run", "stateAfterWaiting", "(LJobStates$Task;)I"⟩, prog_3_method_8_code, 5, (some (.int)), 1, 1)
def m_Tsk_isFreeToRun : xm_M := (⟨"JobStates$Task", "isFreeToRun", "()Z"⟩, prog_5_method_4_code, 1, (some (.boolean)), 3, 0)
def m_I_bitCount : xm_M := (⟨"java/lang/Integer", "bitCount", "(I)I"⟩, prog_8_method_49_code, 1, (some (.int)), 7, 1)
def m_S_approve : xm_M := (⟨"JobStates", "approve", "(III)I"⟩, prog_1_method_7_code, 6, (some (.int)), 4, 3)
def m_S_findTask : xm_M := (⟨"JobStates", "findTask", "(II)LJobStates$Task;"⟩, prog_1_method_20_code, 4, (some (.object "JobStates$Task")), 4, 2)
def m_S_findRun : xm_M := (⟨"JobStates", "findRun", "(I)LJobStates$Run;"⟩, prog_1_method_19_code, 2, (some (.object "JobStates$Run")), 4, 1)
def m_S_take : xm_M := (⟨"JobStates", "take", "(I)I"⟩, prog_1_method_8_code, 4, (some (.int)), 4, 1)
def m_S_findRunner : xm_M := (⟨"JobStates", "findRunner", "(I)LJobStates$Runner;"⟩, prog_1_method_21_code, 2, (some (.object "JobStates$Runner")), 4, 1)
def m_S_nextFor : xm_M := (⟨"JobStates", "nextFor", "(LJobStates$Runner;)LJobStates$Task;"⟩, prog_1_method_25_code, 5, (some (.object "JobStates$Task")), 4, 1)
def m_Run_firstReadyFor : xm_M := (⟨"JobStates$Run", "firstReadyFor", "(LJobStates$Runner;)LJobStates$Task;"⟩, prog_3_method_9_code, 3, (some (.object "JobStates$Task")), 1, 1)
def m_S_isServedBefore : xm_M := (⟨"JobStates", "isServedBefore", "(II)Z"⟩, prog_1_method_26_code, 5, (some (.boolean)), 4, 2)
def m_S_runningOf : xm_M := (⟨"JobStates", "runningOf", "(I)I"⟩, prog_1_method_27_code, 5, (some (.int)), 4, 1)
def m_Tsk_startOn : xm_M := (⟨"JobStates$Task", "startOn", "(LJobStates$Runner;I)V"⟩, prog_5_method_7_code, 3, none, 3, 2)
def m_Tsk_place : xm_M := (⟨"JobStates$Task", "place", "()I"⟩, prog_5_method_2_code, 1, (some (.int)), 3, 0)
def m_S_beat : xm_M := (⟨"JobStates", "beat", "(I)Z"⟩, prog_1_method_9_code, 3, (some (.boolean)), 4, 1)
def m_S_end : xm_M := (⟨"JobStates", "end", "(IZI)Z"⟩, prog_1_method_10_code, 6, (some (.boolean)), 4, 3)
def m_Tsk_finish : xm_M := (⟨"JobStates$Task", "finish", "(I)V"⟩, prog_5_method_9_code, 2, none, 3, 1)
def m_Tsk_failTry : xm_M := (⟨"JobStates$Task", "failTry", "()V"⟩, prog_5_method_10_code, 1, none, 3, 0)
def m_S_tick : xm_M := (⟨"JobStates", "tick", "(I)I"⟩, prog_1_method_11_code, 4, (some (.int)), 4, 1)
def m_S_isAnyRunnerBusy : xm_M := (⟨"JobStates", "isAnyRunnerBusy", "()Z"⟩, prog_1_method_28_code, 2, (some (.boolean)), 4, 0)
def m_S_checkRunners : xm_M := (⟨"JobStates", "checkRunners", "()V"⟩, prog_1_method_29_code, 3, none, 4, 0)
def m_Tsk_loseRunner : xm_M := (⟨"JobStates$Task", "loseRunner", "()V"⟩, prog_5_method_11_code, 1, none, 3, 0)
def m_Tsk_isPastLimit : xm_M := (⟨"JobStates$Task", "isPastLimit", "(I)Z"⟩, prog_5_method_5_code, 2, (some (.boolean)), 3, 1)
def m_S_cancel : xm_M := (⟨"JobStates", "cancel", "(I)Z"⟩, prog_1_method_12_code, 3, (some (.boolean)), 4, 1)
def m_S_again : xm_M := (⟨"JobStates", "again", "(I)I"⟩, prog_1_method_13_code, 4, (some (.int)), 4, 1)
def m_Run_redoFailed : xm_M := (⟨"JobStates$Run", "redoFailed", "()I"⟩, prog_3_method_6_code, 3, (some (.int)), 1, 0)
def m_Tsk_waitAgain : xm_M := (⟨"JobStates$Task", "waitAgain", "()V"⟩, prog_5_method_12_code, 1, none, 3, 0)
def m_S_state : xm_M := (⟨"JobStates", "state", "(II)I"⟩, prog_1_method_14_code, 4, (some (.int)), 4, 2)
def m_S_about : xm_M := (⟨"JobStates", "about", "(III)I"⟩, prog_1_method_15_code, 5, (some (.int)), 4, 3)
def m_Tsk_runnerNumber : xm_M := (⟨"JobStates$Task", "runnerNumber", "()I"⟩, prog_5_method_6_code, 1, (some (.int)), 3, 0)
def m_Run_artefactsFor : xm_M := (⟨"JobStates$Run", "artefactsFor", "(LJobStates$Job;)I"⟩, prog_3_method_10_code, 4, (some (.int)), 1, 1)
def m_S_verdict : xm_M := (⟨"JobStates", "verdict", "(I)I"⟩, prog_1_method_16_code, 3, (some (.int)), 4, 1)
def m_Run_judge : xm_M := (⟨"JobStates$Run", "judge", "()I"⟩, prog_3_method_4_code, 1, (some (.int)), 1, 0)
def m_Run_isAnyFailed : xm_M := (⟨"JobStates$Run", "isAnyFailed", "()Z"⟩, prog_3_method_3_code, 2, (some (.boolean)), 1, 0)
def m_S_has : xm_M := (⟨"JobStates", "has", "(I)I"⟩, prog_1_method_17_code, 4, (some (.int)), 4, 1)
def m_M_init : xm_M := (⟨"JobStatesModel", "<init>", "()V"⟩, prog_7_method_1_code, 1, none, 5, 0)
def m_M_job : xm_M := (⟨"JobStatesModel", "job", "(IIIZZ)I"⟩, prog_7_method_6_code, 6, (some (.int)), 5, 5)
def m_M_needs : xm_M := (⟨"JobStatesModel", "needs", "(II)Z"⟩, prog_7_method_7_code, 3, (some (.boolean)), 5, 2)
def m_M_isJob : xm_M := (⟨"JobStatesModel", "isJob", "(I)Z"⟩, prog_7_method_3_code, 2, (some (.boolean)), 5, 1)
def m_M_runner : xm_M := (⟨"JobStatesModel", "runner", "(I)I"⟩, prog_7_method_8_code, 2, (some (.int)), 5, 1)
def m_M_lost : xm_M := (⟨"JobStatesModel", "lost", "(I)Z"⟩, prog_7_method_9_code, 2, (some (.boolean)), 5, 1)
def m_M_trigger : xm_M := (⟨"JobStatesModel", "trigger", "(II)I"⟩, prog_7_method_18_code, 4, (some (.int)), 5, 2)
def m_M_isOver : xm_M := (⟨"JobStatesModel", "isOver", "(I)Z"⟩, prog_7_method_11_code, 4, (some (.boolean)), 5, 1)
def m_M_isEnd : xm_M := (⟨"JobStatesModel", "isEnd", "(I)Z"⟩, prog_7_method_10_code, 1, (some (.boolean)), 5, 1)
def m_M_stop : xm_M := (⟨"JobStatesModel", "stop", "(I)V"⟩, prog_7_method_17_code, 4, none, 5, 1)
def m_M_free : xm_M := (⟨"JobStatesModel", "free", "(I)V"⟩, prog_7_method_16_code, 3, none, 5, 1)
def m_M_settle : xm_M := (⟨"JobStatesModel", "settle", "()V"⟩, prog_7_method_14_code, 2, none, 5, 0)
def m_M_becomes : xm_M := (⟨"JobStatesModel", "becomes", "(II)I"⟩, prog_7_method_13_code, 6, (some (.int)), 5, 2)
def m_M_isApproved : xm_M := (⟨"JobStatesModel", "isApproved", "(I)Z"⟩, prog_7_method_12_code, 4, (some (.boolean)), 5, 1)
def m_M_approve : xm_M := (⟨"JobStatesModel", "approve", "(III)I"⟩, prog_7_method_20_code, 4, (some (.int)), 5, 3)
def m_M_isThere : xm_M := (⟨"JobStatesModel", "isThere", "(II)Z"⟩, prog_7_method_19_code, 3, (some (.boolean)), 5, 2)
def m_M_isRun : xm_M := (⟨"JobStatesModel", "isRun", "(I)Z"⟩, prog_7_method_4_code, 2, (some (.boolean)), 5, 1)
def m_M_take : xm_M := (⟨"JobStatesModel", "take", "(I)I"⟩, prog_7_method_22_code, 6, (some (.int)), 5, 1)
def m_M_isRunner : xm_M := (⟨"JobStatesModel", "isRunner", "(I)Z"⟩, prog_7_method_5_code, 2, (some (.boolean)), 5, 1)
def m_M_busy : xm_M := (⟨"JobStatesModel", "busy", "(I)I"⟩, prog_7_method_21_code, 4, (some (.int)), 5, 1)
def m_M_beat : xm_M := (⟨"JobStatesModel", "beat", "(I)Z"⟩, prog_7_method_23_code, 2, (some (.boolean)), 5, 1)
def m_M_end : xm_M := (⟨"JobStatesModel", "end", "(IZI)Z"⟩, prog_7_method_25_code, 5, (some (.boolean)), 5, 3)
def m_M_failTry : xm_M := (⟨"JobStatesModel", "failTry", "(I)V"⟩, prog_7_method_24_code, 2, none, 5, 1)
def m_M_tick : xm_M := (⟨"JobStatesModel", "tick", "(I)I"⟩, prog_7_method_27_code, 4, (some (.int)), 5, 1)
def m_M_pass : xm_M := (⟨"JobStatesModel", "pass", "(I)V"⟩, prog_7_method_26_code, 3, none, 5, 1)
def m_M_runnerOf : xm_M := (⟨"JobStatesModel", "runnerOf", "(I)I"⟩, prog_7_method_15_code, 4, (some (.int)), 5, 1)
def m_M_cancel : xm_M := (⟨"JobStatesModel", "cancel", "(I)Z"⟩, prog_7_method_28_code, 2, (some (.boolean)), 5, 1)
def m_M_again : xm_M := (⟨"JobStatesModel", "again", "(I)I"⟩, prog_7_method_29_code, 5, (some (.int)), 5, 1)
def m_M_state : xm_M := (⟨"JobStatesModel", "state", "(II)I"⟩, prog_7_method_30_code, 3, (some (.int)), 5, 2)
def m_M_about : xm_M := (⟨"JobStatesModel", "about", "(III)I"⟩, prog_7_method_31_code, 7, (some (.int)), 5, 3)
def m_M_verdict : xm_M := (⟨"JobStatesModel", "verdict", "(I)I"⟩, prog_7_method_32_code, 4, (some (.int)), 5, 1)
def m_M_has : xm_M := (⟨"JobStatesModel", "has", "(I)I"⟩, prog_7_method_33_code, 2, (some (.int)), 5, 1)
def m_L_law : xm_M := (⟨"JobStatesLaw", "law", "([I)Z"⟩, code, 4, (some (.boolean)), 6, 1)
end
section
/-! THE MACHINE OF PICTURES: a heap as a partial function from addresses to cells (objects by class number and fields, arrays by type number, length and contents), a frame as pc, locals, stack; a judgement xm_S over it, that says of the real machine what W says, for every caller. Its rows are xr_. -/
abbrev xm_E : Type := (Nat × List Value) ⊕ (Nat × Nat × (Nat → Value))
abbrev xm_H : Type := (Nat → Option xm_E) × Nat × Nat
abbrev xm_F : Type := Nat × List (Option Value) × List Value
/-- the facts by which the tables tell of a field, a class, a method that an instruction names: each is a row of part 03 -/
def xm_okF (o i ci k : Nat) : Prop := ∃ (C : String) (T : u_T) (N : Nat), xt_cl[ci]? = some (C, T, N) ∧ k < N ∧ Cond.fieldLink (xt_nm o) i (T k).1 (T k).2.1 (T k).2.2.1 ∈ xt_ws
def xm_okN (o i ci : Nat) : Prop := ∃ (C : String) (T : u_T) (N : Nat), xt_cl[ci]? = some (C, T, N) ∧ Cond.classLink (xt_nm o) i C ∈ xt_ws
def xm_okA (o i t : Nat) : Prop := ∃ C : String, xt_at[t]? = some (.object C) ∧ Cond.classLink (xt_nm o) i C ∈ xt_ws
def xm_okL (o i : Nat) (v : Int32) : Prop := Cond.constant (xt_nm o) i v ∈ xt_ws
def xm_okO (o i : Nat) : Prop := Cond.methodLink (xt_nm o) i objectInit ∈ xt_ws ∧ Cond.instanceMethod objectInit ∈ xt_ws ∧ Cond.code objectInit ⟨#[0xb1]⟩ 1 none ∈ xt_ws
def xm_okM (z : xm_M) : Prop := plainName (xt_y z).cls = true ∧ (xt_y z).cls = xt_nm (xt_own z) ∧ Cond.code (xt_y z) (xt_code z) (xt_maxL z) (xt_ret z) ∈ xt_ws ∧ Cond.initialized (xt_y z).cls ∈ xt_ws ∧ ((xt_y z).cls ≠ "java/lang/invoke/MethodHandle" ∧ (xt_y z).cls ≠ "java/lang/invoke/VarHandle" ∧ (parseMethodDescriptor (xt_y z).desc).map (fun d => d.parameters.length) = some (xt_np z)) ∧ xt_maxL z + 19 ≤ xt_LM
def xm_okV (o i : Nat) (z : xm_M) : Prop := xm_okM z ∧ Cond.methodLink (xt_nm o) i (xt_y z) ∈ xt_ws ∧ Cond.instanceMethod (xt_y z) ∈ xt_ws ∧ Cond.selects (xt_y z).cls (xt_y z) (xt_y z) ∈ xt_ws ∧ xt_np z + 1 ≤ xt_maxL z ∧ ∃ (T : u_T) (N : Nat), xt_cl[xt_own z]? = some (xt_nm (xt_own z), T, N)
def xm_okS (o i : Nat) (z : xm_M) : Prop := xm_okM z ∧ Cond.methodLink (xt_nm o) i (xt_y z) ∈ xt_ws ∧ Cond.static (xt_y z) ∈ xt_ws ∧ xt_np z ≤ xt_maxL z
def xm_okI (o i : Nat) (z : xm_M) : Prop := xm_okM z ∧ Cond.methodLink (xt_nm o) i (xt_y z) ∈ xt_ws ∧ Cond.instanceMethod (xt_y z) ∈ xt_ws ∧ (xt_y z).name = "<init>" ∧ xt_ret z = none ∧ xt_np z + 1 ≤ xt_maxL z
/-- what stays the same through the whole run: the launch, where the law's own cells begin, the script's address, length and ints, the classes' numbers and slots, the array classes' numbers -/
abbrev xm_G : Type := Launch × Nat × Nat × Nat × (Nat → Int32) × va_G × (Nat → ClassId)
abbrev xm_l (g : xm_G) : Launch := g.1
abbrev xm_N (g : xm_G) : Nat := g.2.1
abbrev xm_b (g : xm_G) : Nat := g.2.2.1
abbrev xm_n (g : xm_G) : Nat := g.2.2.2.1
abbrev xm_x (g : xm_G) : Nat → Int32 := g.2.2.2.2.1
abbrev xm_D (g : xm_G) : va_G := g.2.2.2.2.2.1
abbrev xm_A (g : xm_G) : Nat → ClassId := g.2.2.2.2.2.2
def xm_up (f : Nat → Option xm_E) (a : Nat) (e : xm_E) : Nat → Option xm_E := fun q => if q = a then some e else f q
theorem xm_up_self (f : Nat → Option xm_E) (a : Nat) (e : xm_E) : xm_up f a e a = some e := by simp [xm_up]
theorem xm_up_ne (f : Nat → Option xm_E) {a q : Nat} (e : xm_E) (h : q ≠ a) : xm_up f a e q = f q := by simp [xm_up, h]
/-- a cell of the real heap is as the picture says -/
def xm_at (g : xm_G) (a : Nat) (e : xm_E) (H : Heap) : Prop := match e with
  | .inl o => ∃ r : vw_C, xt_cl[o.1]? = some r ∧ o.2.length = r.2.2 ∧ t_OB a ((xm_D g).1 o.1) r.2.2 ((xm_D g).2 o.1) H (vp_V o.2)
  | .inr x => H[a]? = some (arrV (xm_A g x.1) x.2.1 x.2.2)
theorem xm_at.kept {g : xm_G} {a : Nat} {e : xm_E} {H H1 : Heap} (h : xm_at g a e H) (hq : H1[a]? = H[a]?) : xm_at g a e H1 := by
  cases e with
  | inl o =>
    obtain ⟨r, h1, h2, h3⟩ := h
    exact ⟨r, h1, h2, h3.kept hq⟩
  | inr x => exact hq.trans h
theorem xm_at.lt {g : xm_G} {a : Nat} {e : xm_E} {H : Heap} (h : xm_at g a e H) : a < H.size := by
  cases e with
  | inl o =>
    obtain ⟨r, h1, h2, cell, h3, -⟩ := h
    exact (Array.getElem?_eq_some_iff.mp h3).1
  | inr x => exact (Array.getElem?_eq_some_iff.mp h).1
def xm_R (g : xm_G) (h : xm_H) (U : State) (H : Heap) : Prop :=
  H.size = h.2.1 ∧ xm_N g ≤ H.size ∧ xm_b g < xm_N g ∧ va_X (xm_b g) (xm_n g) (xm_x g) U H ∧
  (∀ (a : Nat) (e : xm_E), h.1 a = some e → xm_N g ≤ a ∧ xm_at g a e H) ∧
  va_K (xm_D g) xt_cl [] U ∧ ∀ (t : Nat) (ty : FieldType), xt_at[t]? = some ty → ArrOfT U (xm_A g t) ty ∧ va_RA U (xm_A g t) ty ∧ ∀ C : String, ty = .object C → va_AO C U
theorem xm_R.moved {g : xm_G} {h : xm_H} {u U : State} {H : Heap} (hvm : u.vm.Alike U.vm) (hX : xm_R g h u H) : xm_R g h U H := by
  obtain ⟨h1, h2, h3, h4, h5, h6, h7⟩ := hX
  exact ⟨h1, h2, h3, h4.moved hvm, h5, h6.moved hvm, fun t ty ht => ⟨arrOfT_moved hvm (h7 t ty ht).1, (h7 t ty ht).2.1.moved hvm, fun C hC => ((h7 t ty ht).2.2 C hC).moved hvm⟩⟩
/-- one cell is written -/
theorem xm_R.set {g : xm_G} {h : xm_H} {U : State} {H H1 : Heap} {a : Nat} {e : xm_E} (hX : xm_R g h U H) (ha : xm_N g ≤ a) (he : xm_at g a e H1) (z : H1.size = H.size) (oq : ∀ q : Nat, q ≠ a → H1[q]? = H[q]?) : xm_R g (xm_up h.1 a e, h.2) U H1 := by
  obtain ⟨h1, h2, h3, h4, h5, h6, h7⟩ := hX
  refine ⟨by rw [z]; exact h1, by rw [z]; exact h2, h3, h4.kept (oq _ (by omega)), fun q e' hq => ?_, h6, h7⟩
  by_cases hqa : q = a
  · subst hqa
    rw [show (xm_up h.1 q e, h.2).1 q = some e from xm_up_self _ _ _] at hq
    cases hq
    exact ⟨ha, he⟩
  · rw [show (xm_up h.1 a e, h.2).1 q = h.1 q from xm_up_ne _ _ hqa] at hq
    obtain ⟨p1, p2⟩ := h5 q e' hq
    exact ⟨p1, p2.kept (oq q hqa)⟩
/-- one cell is made -/
theorem xm_R.push {g : xm_G} {h : xm_H} {U : State} {H H1 : Heap} {e : xm_E} {n : Nat} (hX : xm_R g h U H) (he : xm_at g h.2.1 e H1) (z : H1.size = H.size + 1) (oq : ∀ q : Nat, q < H.size → H1[q]? = H[q]?) : xm_R g (xm_up h.1 h.2.1 e, h.2.1 + 1, h.2.2 + n) U H1 := by
  obtain ⟨h1, h2, h3, h4, h5, h6, h7⟩ := hX
  refine ⟨by rw [z, h1], by rw [z]; omega, h3, h4.kept (oq _ (by omega)), fun q e' hq => ?_, h6, h7⟩
  by_cases hqa : q = h.2.1
  · rw [hqa, show (xm_up h.1 h.2.1 e, h.2.1 + 1, h.2.2 + n).1 h.2.1 = some e from xm_up_self _ _ _] at hq
    cases hq
    rw [hqa]
    exact ⟨by omega, he⟩
  · rw [show (xm_up h.1 h.2.1 e, h.2.1 + 1, h.2.2 + n).1 q = h.1 q from xm_up_ne _ _ hqa] at hq
    obtain ⟨p1, p2⟩ := h5 q e' hq
    exact ⟨p1, p2.kept (oq q p2.lt)⟩
theorem xm_R.obj {g : xm_G} {h : xm_H} {U : State} {H : Heap} {a ci : Nat} {fs : List Value} (hX : xm_R g h U H) (ha : h.1 a = some (.inl (ci, fs))) : xm_N g ≤ a ∧ va_P (xm_D g) xt_cl [(a, .inr (ci, fs))] H ∧ ∃ r : vw_C, xt_cl[ci]? = some r ∧ fs.length = r.2.2 := by
  obtain ⟨p1, r, q1, q2, q3⟩ := hX.2.2.2.2.1 a _ ha
  refine ⟨p1, fun k q hk => ?_, r, q1, q2⟩
  have hz : k < 1 := (List.getElem?_eq_some_iff.mp hk).1
  rw [show k = 0 by omega] at hk
  cases hk
  exact ⟨r, q1, q3⟩
theorem xm_R.arr {g : xm_G} {h : xm_H} {U : State} {H : Heap} {a t n : Nat} {f : Nat → Value} (hX : xm_R g h U H) (ha : h.1 a = some (.inr (t, n, f))) : xm_N g ≤ a ∧ H[a]? = some (arrV (xm_A g t) n f) := hX.2.2.2.2.1 a _ ha
/-- the locals -/
def xm_L (la : Array Slot) (ls : List (Option Value)) : Prop := la.size = ls.length ∧ lv_wf la ∧ ∀ (k : Nat) (v : Value), ls[k]? = some (some v) → la[k]? = some (.val v) ∧ v.category = 1
def xm_al (ls : List (Option Value)) : List (Nat × Value) := (List.range ls.length).filterMap fun k => match ls[k]? with
  | some (some v) => some (k, v)
  | _ => none
theorem xm_al_mem {ls : List (Option Value)} {q : Nat × Value} : q ∈ xm_al ls ↔ ls[q.1]? = some (some q.2) := by
  unfold xm_al
  rw [List.mem_filterMap]
  constructor
  · rintro ⟨k, -, h⟩
    split at h
    next v hv => cases h; exact hv
    next => cases h
  · intro h
    refine ⟨q.1, List.mem_range.mpr (List.getElem?_eq_some_iff.mp h).1, ?_⟩
    rw [h]
theorem xm_L.has {la : Array Slot} {ls : List (Option Value)} (h : xm_L la ls) : lv_has la ls.length (xm_al ls) := ⟨h.1, h.2.1, fun q hq => (h.2.2 q.1 q.2 (xm_al_mem.mp hq)).1⟩
theorem xm_L.of {la : Array Slot} {ls : List (Option Value)} {i : Nat} {v : Value} (h : xm_L la ls) (hc : v.category = 1) {la' : Array Slot} (hi : i < ls.length) (h' : lv_has la' ls.length ((i, v) :: (xm_al ls).filter (fun q => !(q.1 == i) && !(q.1 + 1 == i && q.2.category == 2)))) : xm_L la' (ls.set i (some v)) := by
  refine ⟨by rw [h'.1, List.length_set], h'.2.1, fun k w hk => ?_⟩
  by_cases hki : k = i
  · subst hki
    rw [List.getElem?_set_self hi] at hk
    cases hk
    exact ⟨h'.2.2 (k, v) List.mem_cons_self, hc⟩
  · rw [List.getElem?_set_ne (Ne.symm hki)] at hk
    obtain ⟨-, c1⟩ := h.2.2 k w hk
    refine ⟨h'.2.2 (k, w) (List.mem_cons_of_mem _ (List.mem_filter.mpr ⟨xm_al_mem.mpr hk, ?_⟩)), c1⟩
    simp [hki, c1]
/-- how a method ends -/
def xm_ret (y : xm_M) (I : Jvm.ClassFile.Instr) (st : List Value) (r : Option Value) : Prop :=
  (I = .ireturn ∧ ∃ (v : Int32) (ty : FieldType), st = [.int v] ∧ r = some (.int v) ∧ xt_ret y = some ty ∧ narrow ty (.int v) = .int v) ∨
  (I = .return_ ∧ st = [] ∧ r = none ∧ xt_ret y = none) ∨
  (I = .areturn ∧ ∃ (v : Value) (ty : FieldType), st = [v] ∧ r = some v ∧ xt_ret y = some ty ∧ ((∃ n, ty = .object n) ∨ ∃ t, ty = .array t) ∧ (v = .null ∨ ∃ a, v = .ref a))
def xm_C (p : Program) (s : State) (m : MethodId) (args : Array Value) (meth : Method) (c : Code) (y : xm_M) : Prop :=
  p.tables.exec = Jvm.exec ∧ c.code = xt_code y ∧ meth.sig.returnType = xt_ret y ∧ c.maxLocals = xt_maxL y ∧ s.vm.findClass (xt_nm (xt_own y)) = some m.cls ∧ (∀ w ∈ xt_ws, w.before args s = true) ∧ meth.locks = false ∧ ((xt_y y).name = "<init>" → meth.name = "<init>")
/-- THE JUDGEMENT: method y, d calls deep at most, from the frame f and the picture h, ends with an answer and a picture of which Q holds -/
def xm_S (g : xm_G) (d : Nat) (y : xm_M) (f : xm_F) (h : xm_H) (Q : Option Value → xm_H → Prop) : Prop :=
  ∃ (r : Option Value) (h' : xm_H), Q r h' ∧ h.2.1 ≤ h'.2.1 ∧ h.2.2 ≤ h'.2.2 ∧ f.2.1.length = xt_maxL y ∧
  ∀ (p : Program) (e : Env) (R : Room) (s : State) (m : MethodId) (args : Array Value) (below : List Frame) (meth : Method) (c : Code) (H : Heap) (locs : List Loc) (cells slots : Nat) (Z : State → Prop) (la : Array Slot),
    xm_C p s m args meth c y → (d ≤ R.frames ∧ d * xt_LM ≤ R.locals ∧ cells + (h'.2.1 - h.2.1) ≤ R.cells ∧ slots + (h'.2.2 - h.2.2) ≤ R.slots) →
    xm_R g h s H → va_S (fun q => xm_N g ≤ q) s.heap H locs → xm_L la f.2.1 →
    (∀ (pc' : Nat) (la' : Array Slot) (H' : Heap) (locs' : List Loc) (I : Jvm.ClassFile.Instr) (st' : List Value), decode (xt_code y) pc' = .ok (I, 1) → xm_ret y I st' r → xm_R g h' s H' → va_S (fun q => xm_N g ≤ q) s.heap H' locs' →
      W p (xm_l g) e R s m args below meth c H' locs' (cells + (h'.2.1 - h.2.1)) (slots + (h'.2.2 - h.2.2)) Z (F0 m pc' la' st')) →
    W p (xm_l g) e R s m args below meth c H locs cells slots Z (F0 m f.1 la f.2.2)
theorem xm_S.imp {g : xm_G} {d : Nat} {y : xm_M} {f : xm_F} {h : xm_H} {Q Q' : Option Value → xm_H → Prop} (hS : xm_S g d y f h Q) (hQ : ∀ r h', Q r h' → Q' r h') : xm_S g d y f h Q' := by
  obtain ⟨r, h', hq, k⟩ := hS
  exact ⟨r, h', hQ r h' hq, k⟩
theorem xm_S.up {g : xm_G} {d d' : Nat} {y : xm_M} {f : xm_F} {h : xm_H} {Q : Option Value → xm_H → Prop} (hd : d ≤ d') (hS : xm_S g d y f h Q) : xm_S g d' y f h Q := by
  obtain ⟨r, h', hq, h1, h2, h3, k⟩ := hS
  exact ⟨r, h', hq, h1, h2, h3, fun p e R s m args below meth c H locs cells slots Z la C hR => k p e R s m args below meth c H locs cells slots Z la C ⟨Nat.le_trans hd hR.1, Nat.le_trans (Nat.mul_le_mul_right _ hd) hR.2.1, hR.2.2⟩⟩
/-- an instruction that changes the frame alone, and of the locals nothing -/
theorem xm_pure {g : xm_G} {d pc pc' : Nat} {y : xm_M} {ls : List (Option Value)} {st st' : List Value} {h : xm_H} {Q : Option Value → xm_H → Prop}
    (hw : ∀ (p : Program) (e : Env) (R : Room) (s : State) (m : MethodId) (args : Array Value) (below : List Frame) (meth : Method) (c : Code) (H : Heap) (locs : List Loc) (cells slots : Nat) (Z : State → Prop) (la : Array Slot), xm_C p s m args meth c y → xm_R g h s H → xm_L la ls → W p (xm_l g) e R s m args below meth c H locs cells slots Z (F0 m pc' la st') → W p (xm_l g) e R s m args below meth c H locs cells slots Z (F0 m pc la st))
    (K : xm_S g d y (pc', ls, st') h Q) : xm_S g d y (pc, ls, st) h Q := by
  obtain ⟨r, h', hq, h1, h2, h3, k⟩ := K
  exact ⟨r, h', hq, h1, h2, h3, fun p e R s m args below meth c H locs cells slots Z la C hR hX hS hl kr => hw p e R s m args below meth c H locs cells slots Z la C hX hl (k p e R s m args below meth c H locs cells slots Z la C hR hX hS hl kr)⟩
end
