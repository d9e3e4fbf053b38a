section
-- ===== PART A: goes FIRST, ahead of the names: the tables' words, and 'selects' of the private methods out of them =====
/-- a private method of a class that the tables say can be made, by its rows of tables_1 -/
def lw_okq (q : MethodName × Nat) : Prop := (q.1.cls ≠ "java/lang/invoke/MethodHandle" ∧ q.1.cls ≠ "java/lang/invoke/VarHandle") ∧ Cond.instantiable q.1.cls q.2 ∈ tables_1 ∧ Cond.privateMethod q.1 ∈ tables_1 ∧ Cond.instanceMethod q.1 ∈ tables_1
theorem lw_p0 : lw_okq (⟨"JobStates", "cancelGroup", "(I)V"⟩, 8) := ⟨⟨by decide +kernel, by decide +kernel⟩, List.mem_of_getElem? (i := 9) (by decide +kernel), List.mem_of_getElem? (i := 130) (by decide +kernel), List.mem_of_getElem? (i := 131) (by decide +kernel)⟩
theorem lw_p1 : lw_okq (⟨"JobStates", "newRun", "(III)LJobStates$Run;"⟩, 8) := ⟨⟨by decide +kernel, by decide +kernel⟩, List.mem_of_getElem? (i := 9) (by decide +kernel), List.mem_of_getElem? (i := 150) (by decide +kernel), List.mem_of_getElem? (i := 151) (by decide +kernel)⟩
theorem lw_p2 : lw_okq (⟨"JobStates", "settle", "()V"⟩, 8) := ⟨⟨by decide +kernel, by decide +kernel⟩, List.mem_of_getElem? (i := 9) (by decide +kernel), List.mem_of_getElem? (i := 235) (by decide +kernel), List.mem_of_getElem? (i := 236) (by decide +kernel)⟩
theorem lw_p3 : lw_okq (⟨"JobStates", "findTask", "(II)LJobStates$Task;"⟩, 8) := ⟨⟨by decide +kernel, by decide +kernel⟩, List.mem_of_getElem? (i := 9) (by decide +kernel), List.mem_of_getElem? (i := 262) (by decide +kernel), List.mem_of_getElem? (i := 263) (by decide +kernel)⟩
theorem lw_p4 : lw_okq (⟨"JobStates", "findRun", "(I)LJobStates$Run;"⟩, 8) := ⟨⟨by decide +kernel, by decide +kernel⟩, List.mem_of_getElem? (i := 9) (by decide +kernel), List.mem_of_getElem? (i := 266) (by decide +kernel), List.mem_of_getElem? (i := 267) (by decide +kernel)⟩
theorem lw_p5 : lw_okq (⟨"JobStates", "findRunner", "(I)LJobStates$Runner;"⟩, 8) := ⟨⟨by decide +kernel, by decide +kernel⟩, List.mem_of_getElem? (i := 9) (by decide +kernel), List.mem_of_getElem? (i := 275) (by decide +kernel), List.mem_of_getElem? (i := 276) (by decide +kernel)⟩
theorem lw_p6 : lw_okq (⟨"JobStates", "nextFor", "(LJobStates$Runner;)LJobStates$Task;"⟩, 8) := ⟨⟨by decide +kernel, by decide +kernel⟩, List.mem_of_getElem? (i := 9) (by decide +kernel), List.mem_of_getElem? (i := 279) (by decide +kernel), List.mem_of_getElem? (i := 280) (by decide +kernel)⟩
theorem lw_p7 : lw_okq (⟨"JobStates", "isServedBefore", "(II)Z"⟩, 8) := ⟨⟨by decide +kernel, by decide +kernel⟩, List.mem_of_getElem? (i := 9) (by decide +kernel), List.mem_of_getElem? (i := 287) (by decide +kernel), List.mem_of_getElem? (i := 288) (by decide +kernel)⟩
theorem lw_p8 : lw_okq (⟨"JobStates", "runningOf", "(I)I"⟩, 8) := ⟨⟨by decide +kernel, by decide +kernel⟩, List.mem_of_getElem? (i := 9) (by decide +kernel), List.mem_of_getElem? (i := 291) (by decide +kernel), List.mem_of_getElem? (i := 292) (by decide +kernel)⟩
theorem lw_p9 : lw_okq (⟨"JobStates", "isAnyRunnerBusy", "()Z"⟩, 8) := ⟨⟨by decide +kernel, by decide +kernel⟩, List.mem_of_getElem? (i := 9) (by decide +kernel), List.mem_of_getElem? (i := 324) (by decide +kernel), List.mem_of_getElem? (i := 325) (by decide +kernel)⟩
theorem lw_p10 : lw_okq (⟨"JobStates", "checkRunners", "()V"⟩, 8) := ⟨⟨by decide +kernel, by decide +kernel⟩, List.mem_of_getElem? (i := 9) (by decide +kernel), List.mem_of_getElem? (i := 328) (by decide +kernel), List.mem_of_getElem? (i := 329) (by decide +kernel)⟩
theorem lw_p11 : lw_okq (⟨"JobStatesModel", "isJob", "(I)Z"⟩, 26) := ⟨⟨by decide +kernel, by decide +kernel⟩, List.mem_of_getElem? (i := 389) (by decide +kernel), List.mem_of_getElem? (i := 484) (by decide +kernel), List.mem_of_getElem? (i := 485) (by decide +kernel)⟩
theorem lw_p12 : lw_okq (⟨"JobStatesModel", "isOver", "(I)Z"⟩, 26) := ⟨⟨by decide +kernel, by decide +kernel⟩, List.mem_of_getElem? (i := 389) (by decide +kernel), List.mem_of_getElem? (i := 500) (by decide +kernel), List.mem_of_getElem? (i := 501) (by decide +kernel)⟩
theorem lw_p13 : lw_okq (⟨"JobStatesModel", "stop", "(I)V"⟩, 26) := ⟨⟨by decide +kernel, by decide +kernel⟩, List.mem_of_getElem? (i := 389) (by decide +kernel), List.mem_of_getElem? (i := 507) (by decide +kernel), List.mem_of_getElem? (i := 508) (by decide +kernel)⟩
theorem lw_p14 : lw_okq (⟨"JobStatesModel", "free", "(I)V"⟩, 26) := ⟨⟨by decide +kernel, by decide +kernel⟩, List.mem_of_getElem? (i := 389) (by decide +kernel), List.mem_of_getElem? (i := 511) (by decide +kernel), List.mem_of_getElem? (i := 512) (by decide +kernel)⟩
theorem lw_p15 : lw_okq (⟨"JobStatesModel", "settle", "()V"⟩, 26) := ⟨⟨by decide +kernel, by decide +kernel⟩, List.mem_of_getElem? (i := 389) (by decide +kernel), List.mem_of_getElem? (i := 515) (by decide +kernel), List.mem_of_getElem? (i := 516) (by decide +kernel)⟩
def lw_privs_1 : List (MethodName × Nat) := [(⟨"JobStates", "cancelGroup", "(I)V"⟩, 8), (⟨"JobStates", "newRun", "(III)LJobStates$Run;"⟩, 8), (⟨"JobStates", "settle", "()V"⟩, 8), (⟨"JobStates", "findTask", "(II)LJobStates$Task;"⟩, 8), (⟨"JobStates", "findRun", "(I)LJobStates$Run;"⟩, 8), (⟨"JobStates", "findRunner", "(I)LJobStates$Runner;"⟩, 8), (⟨"JobStates", "nextFor", "(LJobStates$Runner;)LJobStates$Task;"⟩, 8), (⟨"JobStates", "isServedBefore", "(II)Z"⟩, 8), (⟨"JobStates", "runningOf", "(I)I"⟩, 8), (⟨"JobStates", "isAnyRunnerBusy", "()Z"⟩, 8), (⟨"JobStates", "checkRunners", "()V"⟩, 8), (⟨"JobStatesModel", "isJob", "(I)Z"⟩, 26), (⟨"JobStatesModel", "isOver", "(I)Z"⟩, 26), (⟨"JobStatesModel", "stop", "(I)V"⟩, 26), (⟨"JobStatesModel", "free", "(I)V"⟩, 26), (⟨"JobStatesModel", "settle", "()V"⟩, 26)]
theorem lw_r1 : ∀ q ∈ lw_privs_1, lw_okq q := List.forall_mem_cons.mpr ⟨lw_p0, List.forall_mem_cons.mpr ⟨lw_p1, List.forall_mem_cons.mpr ⟨lw_p2, List.forall_mem_cons.mpr ⟨lw_p3, List.forall_mem_cons.mpr ⟨lw_p4, List.forall_mem_cons.mpr ⟨lw_p5, List.forall_mem_cons.mpr ⟨lw_p6, List.forall_mem_cons.mpr ⟨lw_p7, List.forall_mem_cons.mpr ⟨lw_p8, List.forall_mem_cons.mpr ⟨lw_p9, List.forall_mem_cons.mpr ⟨lw_p10, List.forall_mem_cons.mpr ⟨lw_p11, List.forall_mem_cons.mpr ⟨lw_p12, List.forall_mem_cons.mpr ⟨lw_p13, List.forall_mem_cons.mpr ⟨lw_p14, List.forall_mem_cons.mpr ⟨lw_p15, fun _ h => absurd h List.not_mem_nil⟩⟩⟩⟩⟩⟩⟩⟩⟩⟩⟩⟩⟩⟩⟩⟩
theorem lw_p16 : lw_okq (⟨"JobStatesModel", "becomes", "(II)I"⟩, 26) := ⟨⟨by decide +kernel, by decide +kernel⟩, List.mem_of_getElem? (i := 389) (by decide +kernel), List.mem_of_getElem? (i := 519) (by decide +kernel), List.mem_of_getElem? (i := 520) (by decide +kernel)⟩
theorem lw_p17 : lw_okq (⟨"JobStatesModel", "isApproved", "(I)Z"⟩, 26) := ⟨⟨by decide +kernel, by decide +kernel⟩, List.mem_of_getElem? (i := 389) (by decide +kernel), List.mem_of_getElem? (i := 523) (by decide +kernel), List.mem_of_getElem? (i := 524) (by decide +kernel)⟩
theorem lw_p18 : lw_okq (⟨"JobStatesModel", "isThere", "(II)Z"⟩, 26) := ⟨⟨by decide +kernel, by decide +kernel⟩, List.mem_of_getElem? (i := 389) (by decide +kernel), List.mem_of_getElem? (i := 531) (by decide +kernel), List.mem_of_getElem? (i := 532) (by decide +kernel)⟩
theorem lw_p19 : lw_okq (⟨"JobStatesModel", "isRun", "(I)Z"⟩, 26) := ⟨⟨by decide +kernel, by decide +kernel⟩, List.mem_of_getElem? (i := 389) (by decide +kernel), List.mem_of_getElem? (i := 535) (by decide +kernel), List.mem_of_getElem? (i := 536) (by decide +kernel)⟩
theorem lw_p20 : lw_okq (⟨"JobStatesModel", "isRunner", "(I)Z"⟩, 26) := ⟨⟨by decide +kernel, by decide +kernel⟩, List.mem_of_getElem? (i := 389) (by decide +kernel), List.mem_of_getElem? (i := 543) (by decide +kernel), List.mem_of_getElem? (i := 544) (by decide +kernel)⟩
theorem lw_p21 : lw_okq (⟨"JobStatesModel", "busy", "(I)I"⟩, 26) := ⟨⟨by decide +kernel, by decide +kernel⟩, List.mem_of_getElem? (i := 389) (by decide +kernel), List.mem_of_getElem? (i := 547) (by decide +kernel), List.mem_of_getElem? (i := 548) (by decide +kernel)⟩
theorem lw_p22 : lw_okq (⟨"JobStatesModel", "failTry", "(I)V"⟩, 26) := ⟨⟨by decide +kernel, by decide +kernel⟩, List.mem_of_getElem? (i := 389) (by decide +kernel), List.mem_of_getElem? (i := 559) (by decide +kernel), List.mem_of_getElem? (i := 560) (by decide +kernel)⟩
theorem lw_p23 : lw_okq (⟨"JobStatesModel", "pass", "(I)V"⟩, 26) := ⟨⟨by decide +kernel, by decide +kernel⟩, List.mem_of_getElem? (i := 389) (by decide +kernel), List.mem_of_getElem? (i := 567) (by decide +kernel), List.mem_of_getElem? (i := 568) (by decide +kernel)⟩
theorem lw_p24 : lw_okq (⟨"JobStatesModel", "runnerOf", "(I)I"⟩, 26) := ⟨⟨by decide +kernel, by decide +kernel⟩, List.mem_of_getElem? (i := 389) (by decide +kernel), List.mem_of_getElem? (i := 571) (by decide +kernel), List.mem_of_getElem? (i := 572) (by decide +kernel)⟩
def lw_privs_2 : List (MethodName × Nat) := [(⟨"JobStatesModel", "becomes", "(II)I"⟩, 26), (⟨"JobStatesModel", "isApproved", "(I)Z"⟩, 26), (⟨"JobStatesModel", "isThere", "(II)Z"⟩, 26), (⟨"JobStatesModel", "isRun", "(I)Z"⟩, 26), (⟨"JobStatesModel", "isRunner", "(I)Z"⟩, 26), (⟨"JobStatesModel", "busy", "(I)I"⟩, 26), (⟨"JobStatesModel", "failTry", "(I)V"⟩, 26), (⟨"JobStatesModel", "pass", "(I)V"⟩, 26), (⟨"JobStatesModel", "runnerOf", "(I)I"⟩, 26)]
theorem lw_r2 : ∀ q ∈ lw_privs_2, lw_okq q := List.forall_mem_cons.mpr ⟨lw_p16, List.forall_mem_cons.mpr ⟨lw_p17, List.forall_mem_cons.mpr ⟨lw_p18, List.forall_mem_cons.mpr ⟨lw_p19, List.forall_mem_cons.mpr ⟨lw_p20, List.forall_mem_cons.mpr ⟨lw_p21, List.forall_mem_cons.mpr ⟨lw_p22, List.forall_mem_cons.mpr ⟨lw_p23, List.forall_mem_cons.mpr ⟨lw_p24, fun _ h => absurd h List.not_mem_nil⟩⟩⟩⟩⟩⟩⟩⟩⟩
def lw_privs : List (MethodName × Nat) := lw_privs_1 ++ (lw_privs_2)
def lw_tbl : List Cond := k2_sels lw_privs ++ tables_1
theorem lw_privs_ok : ∀ q ∈ lw_privs, lw_okq q := by
  show ∀ q ∈ lw_privs_1 ++ (lw_privs_2), lw_okq q
  exact List.forall_mem_append.mpr ⟨lw_r1, lw_r2⟩
-- ===== end of PART A; then your names; then what follows =====
end
section
/-! names and tables, by program (wip/whole/names.py) out of the claim's own words and listing -/
def xt_ws : List Cond := lw_tbl.filter goodWord
theorem xt_in (i : Nat) {w : Cond} (h : lw_tbl[i]? = some w) (hg : goodWord w = true) : w ∈ xt_ws := List.mem_filter.mpr ⟨List.mem_of_getElem? h, hg⟩
theorem xt_good : ∀ w ∈ xt_ws, (w.onTables && w.keeps) = true ∨ ∃ ty, w = .arrayClass ty := fun _ h => good_of_word (List.mem_filter.mp h).2
def xT0 : u_T := fun k => match k with
  | 0 => ("JobStates$Job", "labels", "I", true)
  | 1 => ("JobStates$Job", "limit", "I", true)
  | 2 => ("JobStates$Job", "retries", "I", true)
  | 3 => ("JobStates$Job", "always", "Z", true)
  | 4 => ("JobStates$Job", "approval", "Z", true)
  | _ => ("JobStates$Job", "needed", "I", false)
def xy0 : Nat → FieldType := fun k => match k with
  | 0 => .int
  | 1 => .int
  | 2 => .int
  | 3 => .boolean
  | 4 => .boolean
  | _ => .int
theorem xn0 : ∀ a, a < 6 → ∀ b, b < 6 → a ≠ b → (xT0 a).2.1 ≠ (xT0 b).2.1 := by decide +kernel
theorem xp0 : ∀ k, k < 6 → parseFieldDescriptor (xT0 k).2.2.1 = some (xy0 k) := by decide +kernel
theorem xw0 : ∀ w ∈ u_ws "JobStates$Job" xT0 6, w ∈ xt_ws := by
  intro w hw
  have e : u_ws "JobStates$Job" xT0 6 = [94, 96, 98, 100, 102, 104].filterMap (fun i => lw_tbl[i]?) := by decide +kernel
  have g : (u_ws "JobStates$Job" xT0 6).all goodWord = true := by decide +kernel
  have hg := List.all_eq_true.mp g w hw
  rw [e] at hw
  obtain ⟨i, -, hi⟩ := List.mem_filterMap.mp hw
  exact xt_in i hi hg
def xT1 : u_T := fun k => match k with
  | 0 => ("JobStates$Run", "number", "I", true)
  | 1 => ("JobStates$Run", "person", "I", true)
  | 2 => ("JobStates$Run", "group", "I", true)
  | 3 => ("JobStates$Run", "tasks", "[LJobStates$Task;", true)
  | _ => ("JobStates$Run", "cancelled", "Z", false)
def xy1 : Nat → FieldType := fun k => match k with
  | 0 => .int
  | 1 => .int
  | 2 => .int
  | 3 => .array (.object "JobStates$Task")
  | _ => .boolean
theorem xn1 : ∀ a, a < 5 → ∀ b, b < 5 → a ≠ b → (xT1 a).2.1 ≠ (xT1 b).2.1 := by decide +kernel
theorem xp1 : ∀ k, k < 5 → parseFieldDescriptor (xT1 k).2.2.1 = some (xy1 k) := by decide +kernel
theorem xw1 : ∀ w ∈ u_ws "JobStates$Run" xT1 5, w ∈ xt_ws := by
  intro w hw
  have e : u_ws "JobStates$Run" xT1 5 = [195, 197, 199, 201, 203].filterMap (fun i => lw_tbl[i]?) := by decide +kernel
  have g : (u_ws "JobStates$Run" xT1 5).all goodWord = true := by decide +kernel
  have hg := List.all_eq_true.mp g w hw
  rw [e] at hw
  obtain ⟨i, -, hi⟩ := List.mem_filterMap.mp hw
  exact xt_in i hi hg
def xT2 : u_T := fun k => match k with
  | 0 => ("JobStates$Runner", "number", "I", true)
  | 1 => ("JobStates$Runner", "labels", "I", true)
  | 2 => ("JobStates$Runner", "beat", "I", false)
  | _ => ("JobStates$Runner", "task", "LJobStates$Task;", false)
def xy2 : Nat → FieldType := fun k => match k with
  | 0 => .int
  | 1 => .int
  | 2 => .int
  | _ => .object "JobStates$Task"
theorem xn2 : ∀ a, a < 4 → ∀ b, b < 4 → a ≠ b → (xT2 a).2.1 ≠ (xT2 b).2.1 := by decide +kernel
theorem xp2 : ∀ k, k < 4 → parseFieldDescriptor (xT2 k).2.2.1 = some (xy2 k) := by decide +kernel
theorem xw2 : ∀ w ∈ u_ws "JobStates$Runner" xT2 4, w ∈ xt_ws := by
  intro w hw
  have e : u_ws "JobStates$Runner" xT2 4 = [134, 136, 138, 140].filterMap (fun i => lw_tbl[i]?) := by decide +kernel
  have g : (u_ws "JobStates$Runner" xT2 4).all goodWord = true := by decide +kernel
  have hg := List.all_eq_true.mp g w hw
  rw [e] at hw
  obtain ⟨i, -, hi⟩ := List.mem_filterMap.mp hw
  exact xt_in i hi hg
def xT3 : u_T := fun k => match k with
  | 0 => ("JobStates$Task", "run", "LJobStates$Run;", true)
  | 1 => ("JobStates$Task", "number", "I", true)
  | 2 => ("JobStates$Task", "job", "LJobStates$Job;", true)
  | 3 => ("JobStates$Task", "state", "I", false)
  | 4 => ("JobStates$Task", "runner", "LJobStates$Runner;", false)
  | 5 => ("JobStates$Task", "startedAt", "I", false)
  | 6 => ("JobStates$Task", "approvals", "I", false)
  | 7 => ("JobStates$Task", "artefact", "I", false)
  | 8 => ("JobStates$Task", "triesBegun", "I", false)
  | 9 => ("JobStates$Task", "timesLost", "I", false)
  | 10 => ("JobStates$Task", "failedTriesSinceWaiting", "I", false)
  | _ => ("JobStates$Task", "lostSinceWaiting", "Z", false)
def xy3 : Nat → FieldType := fun k => match k with
  | 0 => .object "JobStates$Run"
  | 1 => .int
  | 2 => .object "JobStates$Job"
  | 3 => .int
  | 4 => .object "JobStates$Runner"
  | 5 => .int
  | 6 => .int
  | 7 => .int
  | 8 => .int
  | 9 => .int
  | 10 => .int
  | _ => .boolean
theorem xn3 : ∀ a, a < 12 → ∀ b, b < 12 → a ≠ b → (xT3 a).2.1 ≠ (xT3 b).2.1 := by decide +kernel
theorem xp3 : ∀ k, k < 12 → parseFieldDescriptor (xT3 k).2.2.1 = some (xy3 k) := by decide +kernel
theorem xw3 : ∀ w ∈ u_ws "JobStates$Task" xT3 12, w ∈ xt_ws := by
  intro w hw
  have e : u_ws "JobStates$Task" xT3 12 = [234, 236, 238, 240, 242, 244, 246, 248, 250, 252, 254, 256].filterMap (fun i => lw_tbl[i]?) := by decide +kernel
  have g : (u_ws "JobStates$Task" xT3 12).all goodWord = true := by decide +kernel
  have hg := List.all_eq_true.mp g w hw
  rw [e] at hw
  obtain ⟨i, -, hi⟩ := List.mem_filterMap.mp hw
  exact xt_in i hi hg
def xT4 : u_T := fun k => match k with
  | 0 => ("JobStates", "jobs", "[LJobStates$Job;", true)
  | 1 => ("JobStates", "runners", "[LJobStates$Runner;", true)
  | 2 => ("JobStates", "runs", "[LJobStates$Run;", true)
  | 3 => ("JobStates", "jobCount", "I", false)
  | 4 => ("JobStates", "runnerCount", "I", false)
  | 5 => ("JobStates", "runCount", "I", false)
  | 6 => ("JobStates", "clock", "I", false)
  | _ => ("JobStates", "lostTime", "I", false)
def xy4 : Nat → FieldType := fun k => match k with
  | 0 => .array (.object "JobStates$Job")
  | 1 => .array (.object "JobStates$Runner")
  | 2 => .array (.object "JobStates$Run")
  | 3 => .int
  | 4 => .int
  | 5 => .int
  | 6 => .int
  | _ => .int
theorem xn4 : ∀ a, a < 8 → ∀ b, b < 8 → a ≠ b → (xT4 a).2.1 ≠ (xT4 b).2.1 := by decide +kernel
theorem xp4 : ∀ k, k < 8 → parseFieldDescriptor (xT4 k).2.2.1 = some (xy4 k) := by decide +kernel
theorem xw4 : ∀ w ∈ u_ws "JobStates" xT4 8, w ∈ xt_ws := by
  intro w hw
  have e : u_ws "JobStates" xT4 8 = [55, 57, 59, 61, 63, 65, 67, 69].filterMap (fun i => lw_tbl[i]?) := by decide +kernel
  have g : (u_ws "JobStates" xT4 8).all goodWord = true := by decide +kernel
  have hg := List.all_eq_true.mp g w hw
  rw [e] at hw
  obtain ⟨i, -, hi⟩ := List.mem_filterMap.mp hw
  exact xt_in i hi hg
def xT5 : u_T := fun k => match k with
  | 0 => ("JobStatesModel", "code", "I", false)
  | 1 => ("JobStatesModel", "clock", "I", false)
  | 2 => ("JobStatesModel", "lostAt", "I", false)
  | 3 => ("JobStatesModel", "jobs", "I", false)
  | 4 => ("JobStatesModel", "runs", "I", false)
  | 5 => ("JobStatesModel", "runners", "I", false)
  | 6 => ("JobStatesModel", "labels", "[I", true)
  | 7 => ("JobStatesModel", "limit", "[I", true)
  | 8 => ("JobStatesModel", "retries", "[I", true)
  | 9 => ("JobStatesModel", "need", "[I", true)
  | 10 => ("JobStatesModel", "always", "[Z", true)
  | 11 => ("JobStatesModel", "wants", "[Z", true)
  | 12 => ("JobStatesModel", "person", "[I", true)
  | 13 => ("JobStatesModel", "group", "[I", true)
  | 14 => ("JobStatesModel", "isCancelled", "[Z", true)
  | 15 => ("JobStatesModel", "state", "[I", true)
  | 16 => ("JobStatesModel", "since", "[I", true)
  | 17 => ("JobStatesModel", "tries", "[I", true)
  | 18 => ("JobStatesModel", "failures", "[I", true)
  | 19 => ("JobStatesModel", "losses", "[I", true)
  | 20 => ("JobStatesModel", "lossesNow", "[I", true)
  | 21 => ("JobStatesModel", "artefact", "[I", true)
  | 22 => ("JobStatesModel", "approvals", "[I", true)
  | 23 => ("JobStatesModel", "runnerLabels", "[I", true)
  | 24 => ("JobStatesModel", "beat", "[I", true)
  | _ => ("JobStatesModel", "has", "[I", true)
def xy5 : Nat → FieldType := fun k => match k with
  | 0 => .int
  | 1 => .int
  | 2 => .int
  | 3 => .int
  | 4 => .int
  | 5 => .int
  | 6 => .array (.int)
  | 7 => .array (.int)
  | 8 => .array (.int)
  | 9 => .array (.int)
  | 10 => .array (.boolean)
  | 11 => .array (.boolean)
  | 12 => .array (.int)
  | 13 => .array (.int)
  | 14 => .array (.boolean)
  | 15 => .array (.int)
  | 16 => .array (.int)
  | 17 => .array (.int)
  | 18 => .array (.int)
  | 19 => .array (.int)
  | 20 => .array (.int)
  | 21 => .array (.int)
  | 22 => .array (.int)
  | 23 => .array (.int)
  | 24 => .array (.int)
  | _ => .array (.int)
theorem xn5 : ∀ a, a < 26 → ∀ b, b < 26 → a ≠ b → (xT5 a).2.1 ≠ (xT5 b).2.1 := by decide +kernel
theorem xp5 : ∀ k, k < 26 → parseFieldDescriptor (xT5 k).2.2.1 = some (xy5 k) := by decide +kernel
theorem xw5 : ∀ w ∈ u_ws "JobStatesModel" xT5 26, w ∈ xt_ws := by
  intro w hw
  have e : u_ws "JobStatesModel" xT5 26 = [445, 447, 449, 451, 453, 455, 457, 459, 461, 463, 465, 467, 469, 471, 473, 475, 477, 479, 481, 483, 485, 487, 489, 491, 493, 495].filterMap (fun i => lw_tbl[i]?) := by decide +kernel
  have g : (u_ws "JobStatesModel" xT5 26).all goodWord = true := by decide +kernel
  have hg := List.all_eq_true.mp g w hw
  rw [e] at hw
  obtain ⟨i, -, hi⟩ := List.mem_filterMap.mp hw
  exact xt_in i hi hg
def xt_nm : Nat → String := fun k => match k with
  | 0 => "JobStates$Job"
  | 1 => "JobStates$Run"
  | 2 => "JobStates$Runner"
  | 3 => "JobStates$Task"
  | 4 => "JobStates"
  | 5 => "JobStatesModel"
  | 6 => "JobStatesLaw"
  | _ => "java/lang/Integer"
abbrev xt_cl : List vw_C := [("JobStates$Job", xT0, 6), ("JobStates$Run", xT1, 5), ("JobStates$Runner", xT2, 4), ("JobStates$Task", xT3, 12), ("JobStates", xT4, 8), ("JobStatesModel", xT5, 26)]
def xt_ty : Nat → Nat → FieldType := fun c => match c with
  | 0 => xy0
  | 1 => xy1
  | 2 => xy2
  | 3 => xy3
  | 4 => xy4
  | _ => xy5
abbrev xt_at : List FieldType := [.int, .boolean, .object "JobStates$Job", .object "JobStates$Runner", .object "JobStates$Run", .object "JobStates$Task"]
theorem xt_cl_ok {ci : Nat} {C : String} {T : u_T} {N : Nat} (h : xt_cl[ci]? = some (C, T, N)) : (∀ w ∈ u_ws C T N, w ∈ xt_ws) ∧ (∀ k, k < N → parseFieldDescriptor (T k).2.2.1 = some (xt_ty ci k)) ∧ (∀ a, a < N → ∀ b, b < N → a ≠ b → (T a).2.1 ≠ (T b).2.1) ∧ Cond.instantiable C N ∈ xt_ws ∧ Cond.initialized C ∈ xt_ws := by
  match ci, h with
  | 0, h => cases h; exact ⟨xw0, xp0, xn0, xt_in 76 (by decide +kernel) rfl, xt_in 28 (by decide +kernel) rfl⟩
  | 1, h => cases h; exact ⟨xw1, xp1, xn1, xt_in 178 (by decide +kernel) rfl, xt_in 30 (by decide +kernel) rfl⟩
  | 2, h => cases h; exact ⟨xw2, xp2, xn2, xt_in 119 (by decide +kernel) rfl, xt_in 29 (by decide +kernel) rfl⟩
  | 3, h => cases h; exact ⟨xw3, xp3, xn3, xt_in 207 (by decide +kernel) rfl, xt_in 31 (by decide +kernel) rfl⟩
  | 4, h => cases h; exact ⟨xw4, xp4, xn4, xt_in 34 (by decide +kernel) rfl, xt_in 26 (by decide +kernel) rfl⟩
  | 5, h => cases h; exact ⟨xw5, xp5, xn5, xt_in 414 (by decide +kernel) rfl, xt_in 27 (by decide +kernel) rfl⟩
  | k + 6, h => simp [xt_cl] at h
def xt_fin (ci k : Nat) : Bool := match xt_cl[ci]? with
  | some q => (q.2.1 k).2.2.2
  | none => true
def xt_dec (ci k : Nat) : String := match xt_cl[ci]? with
  | some q => (q.2.1 k).1
  | none => ""
def xt_dflt (ci : Nat) : List Value := match xt_cl[ci]? with
  | some q => (List.range q.2.2).map (fun k => defaultValue (xt_ty ci k))
  | none => []
/-- a method: its name, code, locals, answer, the number of its class, how many it takes (the receiver apart) -/
abbrev xm_M : Type := MethodName × ByteArray × Nat × Option FieldType × Nat × Nat
abbrev xt_y (y : xm_M) : MethodName := y.1
abbrev xt_code (y : xm_M) : ByteArray := y.2.1
abbrev xt_maxL (y : xm_M) : Nat := y.2.2.1
abbrev xt_ret (y : xm_M) : Option FieldType := y.2.2.2.1
abbrev xt_own (y : xm_M) : Nat := y.2.2.2.2.1
abbrev xt_np (y : xm_M) : Nat := y.2.2.2.2.2
abbrev xt_LM : Nat := 30
def m_S_init : xm_M := (⟨"JobStates", "<init>", "()V"⟩, prog_1_method_1_code, 1, none, 4, 0)
def m_S_job : xm_M := (⟨"JobStates", "job", "(IIIZZ)I"⟩, prog_1_method_2_code, 7, (some (.int)), 4, 5)
def m_Job_init : xm_M := (⟨"JobStates$Job", "<init>", "(IIIZZ)V"⟩, prog_2_method_1_code, 6, none, 0, 5)
def m_S_needs : xm_M := (⟨"JobStates", "needs", "(II)Z"⟩, prog_1_method_3_code, 4, (some (.boolean)), 4, 2)
def m_Job_isNeeding : xm_M := (⟨"JobStates$Job", "isNeeding", "(I)Z"⟩, prog_2_method_2_code, 2, (some (.boolean)), 0, 1)
def m_S_runner : xm_M := (⟨"JobStates", "runner", "(I)I"⟩, prog_1_method_4_code, 3, (some (.int)), 4, 1)
def m_Rnr_init : xm_M := (⟨"JobStates$Runner", "<init>", "(III)V"⟩, prog_4_method_1_code, 4, none, 2, 3)
def m_S_lost : xm_M := (⟨"JobStates", "lost", "(I)Z"⟩, prog_1_method_5_code, 2, (some (.boolean)), 4, 1)
def m_S_trigger : xm_M := (⟨"JobStates", "trigger", "(II)I"⟩, prog_1_method_6_code, 4, (some (.int)), 4, 2)
def m_S_isPerson : xm_M := (⟨"JobStates", "isPerson", "(I)Z"⟩, prog_1_method_18_code, 1, (some (.boolean)), 4, 1)
def m_S_cancelGroup : xm_M := (⟨"JobStates", "cancelGroup", "(I)V"⟩, prog_1_method_23_code, 3, none, 4, 1)
def m_Run_isOver : xm_M := (⟨"JobStates$Run", "isOver", "()Z"⟩, prog_3_method_2_code, 2, (some (.boolean)), 1, 0)
def m_Tsk_isEnded : xm_M := (⟨"JobStates$Task", "isEnded", "()Z"⟩, prog_5_method_3_code, 1, (some (.boolean)), 3, 0)
def m_Run_cancelAll : xm_M := (⟨"JobStates$Run", "cancelAll", "()V"⟩, prog_3_method_5_code, 2, none, 1, 0)
def m_Tsk_leaveRunner : xm_M := (⟨"JobStates$Task", "leaveRunner", "()V"⟩, prog_5_method_8_code, 1, none, 3, 0)
def m_S_newRun : xm_M := (⟨"JobStates", "newRun", "(III)LJobStates$Run;"⟩, prog_1_method_22_code, 6, (some (.object "JobStates$Run")), 4, 3)
def m_Run_init : xm_M := (⟨"JobStates$Run", "<init>", "(IIII)V"⟩, prog_3_method_1_code, 5, none, 1, 4)
def m_Tsk_init : xm_M := (⟨"JobStates$Task", "<init>", "(LJobStates$Run;ILJobStates$Job;)V"⟩, prog_5_method_1_code, 4, none, 3, 3)
def m_S_settle : xm_M := (⟨"JobStates", "settle", "()V"⟩, prog_1_method_24_code, 2, none, 4, 0)
def m_Run_settleTasks : xm_M := (⟨"JobStates$Run", "settleTasks", "()V"⟩, prog_3_method_7_code, 2, none, 1, 0)
def m_Run_stateAfterWaiting : xm_M := (⟨"JobStates$Run", "stateAfterWaiting", "(LJobStates$Task;)I"⟩, prog_3_method_8_code, 5, (some (.int)), 1, 1)
def m_Tsk_isFreeToRun : xm_M := (⟨"JobStates$Task", "isFreeToRun", "()Z"⟩, prog_5_method_4_code, 1, (some (.boolean)), 3, 0)
def m_I_bitCount : xm_M := (⟨"java/lang/Integer", "bitCount", "(I)I"⟩, prog_8_method_49_code, 1, (some (.int)), 7, 1)
def m_S_approve : xm_M := (⟨"JobStates", "approve", "(III)I"⟩, prog_1_method_7_code, 6, (some (.int)), 4, 3)
def m_S_findTask : xm_M := (⟨"JobStates", "findTask", "(II)LJobStates$Task;"⟩, prog_1_method_20_code, 4, (some (.object "JobStates$Task")), 4, 2)
def m_S_findRun : xm_M := (⟨"JobStates", "findRun", "(I)LJobStates$Run;"⟩, prog_1_method_19_code, 2, (some (.object "JobStates$Run")), 4, 1)
def m_S_take : xm_M := (⟨"JobStates", "take", "(I)I"⟩, prog_1_method_8_code, 4, (some (.int)), 4, 1)
def m_S_findRunner : xm_M := (⟨"JobStates", "findRunner", "(I)LJobStates$Runner;"⟩, prog_1_method_21_code, 2, (some (.object "JobStates$Runner")), 4, 1)
def m_S_nextFor : xm_M := (⟨"JobStates", "nextFor", "(LJobStates$Runner;)LJobStates$Task;"⟩, prog_1_method_25_code, 5, (some (.object "JobStates$Task")), 4, 1)
def m_Run_firstReadyFor : xm_M := (⟨"JobStates$Run", "firstReadyFor", "(LJobStates$Runner;)LJobStates$Task;"⟩, prog_3_method_9_code, 3, (some (.object "JobStates$Task")), 1, 1)
def m_S_isServedBefore : xm_M := (⟨"JobStates", "isServedBefore", "(II)Z"⟩, prog_1_method_26_code, 5, (some (.boolean)), 4, 2)
def m_S_runningOf : xm_M := (⟨"JobStates", "runningOf", "(I)I"⟩, prog_1_method_27_code, 5, (some (.int)), 4, 1)
def m_Tsk_startOn : xm_M := (⟨"JobStates$Task", "startOn", "(LJobStates$Runner;I)V"⟩, prog_5_method_7_code, 3, none, 3, 2)
def m_Tsk_place : xm_M := (⟨"JobStates$Task", "place", "()I"⟩, prog_5_method_2_code, 1, (some (.int)), 3, 0)
def m_S_beat : xm_M := (⟨"JobStates", "beat", "(I)Z"⟩, prog_1_method_9_code, 3, (some (.boolean)), 4, 1)
def m_S_end : xm_M := (⟨"JobStates", "end", "(IZI)Z"⟩, prog_1_method_10_code, 6, (some (.boolean)), 4, 3)
def m_Tsk_finish : xm_M := (⟨"JobStates$Task", "finish", "(I)V"⟩, prog_5_method_9_code, 2, none, 3, 1)
def m_Tsk_failTry : xm_M := (⟨"JobStates$Task", "failTry", "()V"⟩, prog_5_method_10_code, 1, none, 3, 0)
def m_S_tick : xm_M := (⟨"JobStates", "tick", "(I)I"⟩, prog_1_method_11_code, 4, (some (.int)), 4, 1)
def m_S_isAnyRunnerBusy : xm_M := (⟨"JobStates", "isAnyRunnerBusy", "()Z"⟩, prog_1_method_28_code, 2, (some (.boolean)), 4, 0)
def m_S_checkRunners : xm_M := (⟨"JobStates", "checkRunners", "()V"⟩, prog_1_method_29_code, 3, none, 4, 0)
def m_Tsk_loseRunner : xm_M := (⟨"JobStates$Task", "loseRunner", "()V"⟩, prog_5_method_11_code, 1, none, 3, 0)
def m_Tsk_isPastLimit : xm_M := (⟨"JobStates$Task", "isPastLimit", "(I)Z"⟩, prog_5_method_5_code, 2, (some (.boolean)), 3, 1)
def m_S_cancel : xm_M := (⟨"JobStates", "cancel", "(I)Z"⟩, prog_1_method_12_code, 3, (some (.boolean)), 4, 1)
def m_S_again : xm_M := (⟨"JobStates", "again", "(I)I"⟩, prog_1_method_13_code, 4, (some (.int)), 4, 1)
def m_Run_redoFailed : xm_M := (⟨"JobStates$Run", "redoFailed", "()I"⟩, prog_3_method_6_code, 3, (some (.int)), 1, 0)
def m_Tsk_waitAgain : xm_M := (⟨"JobStates$Task", "waitAgain", "()V"⟩, prog_5_method_12_code, 1, none, 3, 0)
def m_S_state : xm_M := (⟨"JobStates", "state", "(II)I"⟩, prog_1_method_14_code, 4, (some (.int)), 4, 2)
def m_S_about : xm_M := (⟨"JobStates", "about", "(III)I"⟩, prog_1_method_15_code, 5, (some (.int)), 4, 3)
def m_Tsk_runnerNumber : xm_M := (⟨"JobStates$Task", "runnerNumber", "()I"⟩, prog_5_method_6_code, 1, (some (.int)), 3, 0)
def m_Run_artefactsFor : xm_M := (⟨"JobStates$Run", "artefactsFor", "(LJobStates$Job;)I"⟩, prog_3_method_10_code, 4, (some (.int)), 1, 1)
def m_S_verdict : xm_M := (⟨"JobStates", "verdict", "(I)I"⟩, prog_1_method_16_code, 3, (some (.int)), 4, 1)
def m_Run_judge : xm_M := (⟨"JobStates$Run", "judge", "()I"⟩, prog_3_method_4_code, 1, (some (.int)), 1, 0)
def m_Run_isAnyFailed : xm_M := (⟨"JobStates$Run", "isAnyFailed", "()Z"⟩, prog_3_method_3_code, 2, (some (.boolean)), 1, 0)
def m_S_has : xm_M := (⟨"JobStates", "has", "(I)I"⟩, prog_1_method_17_code, 4, (some (.int)), 4, 1)
def m_M_init : xm_M := (⟨"JobStatesModel", "<init>", "()V"⟩, prog_7_method_1_code, 1, none, 5, 0)
def m_M_job : xm_M := (⟨"JobStatesModel", "job", "(IIIZZ)I"⟩, prog_7_method_6_code, 6, (some (.int)), 5, 5)
def m_M_needs : xm_M := (⟨"JobStatesModel", "needs", "(II)Z"⟩, prog_7_method_7_code, 3, (some (.boolean)), 5, 2)
def m_M_isJob : xm_M := (⟨"JobStatesModel", "isJob", "(I)Z"⟩, prog_7_method_3_code, 2, (some (.boolean)), 5, 1)
def m_M_runner : xm_M := (⟨"JobStatesModel", "runner", "(I)I"⟩, prog_7_method_8_code, 2, (some (.int)), 5, 1)
def m_M_lost : xm_M := (⟨"JobStatesModel", "lost", "(I)Z"⟩, prog_7_method_9_code, 2, (some (.boolean)), 5, 1)
def m_M_trigger : xm_M := (⟨"JobStatesModel", "trigger", "(II)I"⟩, prog_7_method_18_code, 4, (some (.int)), 5, 2)
def m_M_isOver : xm_M := (⟨"JobStatesModel", "isOver", "(I)Z"⟩, prog_7_method_11_code, 4, (some (.boolean)), 5, 1)
def m_M_isEnd : xm_M := (⟨"JobStatesModel", "isEnd", "(I)Z"⟩, prog_7_method_10_code, 1, (some (.boolean)), 5, 1)
def m_M_stop : xm_M := (⟨"JobStatesModel", "stop", "(I)V"⟩, prog_7_method_17_code, 4, none, 5, 1)
def m_M_free : xm_M := (⟨"JobStatesModel", "free", "(I)V"⟩, prog_7_method_16_code, 3, none, 5, 1)
def m_M_settle : xm_M := (⟨"JobStatesModel", "settle", "()V"⟩, prog_7_method_14_code, 2, none, 5, 0)
def m_M_becomes : xm_M := (⟨"JobStatesModel", "becomes", "(II)I"⟩, prog_7_method_13_code, 6, (some (.int)), 5, 2)
def m_M_isApproved : xm_M := (⟨"JobStatesModel", "isApproved", "(I)Z"⟩, prog_7_method_12_code, 4, (some (.boolean)), 5, 1)
def m_M_approve : xm_M := (⟨"JobStatesModel", "approve", "(III)I"⟩, prog_7_method_20_code, 4, (some (.int)), 5, 3)
def m_M_isThere : xm_M := (⟨"JobStatesModel", "isThere", "(II)Z"⟩, prog_7_method_19_code, 3, (some (.boolean)), 5, 2)
def m_M_isRun : xm_M := (⟨"JobStatesModel", "isRun", "(I)Z"⟩, prog_7_method_4_code, 2, (some (.boolean)), 5, 1)
def m_M_take : xm_M := (⟨"JobStatesModel", "take", "(I)I"⟩, prog_7_method_22_code, 6, (some (.int)), 5, 1)
def m_M_isRunner : xm_M := (⟨"JobStatesModel", "isRunner", "(I)Z"⟩, prog_7_method_5_code, 2, (some (.boolean)), 5, 1)
def m_M_busy : xm_M := (⟨"JobStatesModel", "busy", "(I)I"⟩, prog_7_method_21_code, 4, (some (.int)), 5, 1)
def m_M_beat : xm_M := (⟨"JobStatesModel", "beat", "(I)Z"⟩, prog_7_method_23_code, 2, (some (.boolean)), 5, 1)
def m_M_end : xm_M := (⟨"JobStatesModel", "end", "(IZI)Z"⟩, prog_7_method_25_code, 5, (some (.boolean)), 5, 3)
def m_M_failTry : xm_M := (⟨"JobStatesModel", "failTry", "(I)V"⟩, prog_7_method_24_code, 2, none, 5, 1)
def m_M_tick : xm_M := (⟨"JobStatesModel", "tick", "(I)I"⟩, prog_7_method_27_code, 4, (some (.int)), 5, 1)
def m_M_pass : xm_M := (⟨"JobStatesModel", "pass", "(I)V"⟩, prog_7_method_26_code, 3, none, 5, 1)
def m_M_runnerOf : xm_M := (⟨"JobStatesModel", "runnerOf", "(I)I"⟩, prog_7_method_15_code, 4, (some (.int)), 5, 1)
def m_M_cancel : xm_M := (⟨"JobStatesModel", "cancel", "(I)Z"⟩, prog_7_method_28_code, 2, (some (.boolean)), 5, 1)
def m_M_again : xm_M := (⟨"JobStatesModel", "again", "(I)I"⟩, prog_7_method_29_code, 5, (some (.int)), 5, 1)
def m_M_state : xm_M := (⟨"JobStatesModel", "state", "(II)I"⟩, prog_7_method_30_code, 3, (some (.int)), 5, 2)
def m_M_about : xm_M := (⟨"JobStatesModel", "about", "(III)I"⟩, prog_7_method_31_code, 7, (some (.int)), 5, 3)
def m_M_verdict : xm_M := (⟨"JobStatesModel", "verdict", "(I)I"⟩, prog_7_method_32_code, 4, (some (.int)), 5, 1)
def m_M_has : xm_M := (⟨"JobStatesModel", "has", "(I)I"⟩, prog_7_method_33_code, 2, (some (.int)), 5, 1)
def m_L_law : xm_M := (⟨"JobStatesLaw", "law", "([I)Z"⟩, code, 4, (some (.boolean)), 6, 1)
end
section
/-! THE MACHINE OF PICTURES: a heap as a partial function from addresses to cells (objects by class number and fields, arrays by type number, length and contents), a frame as pc, locals, stack; a judgement xm_S over it, that says of the real machine what W says, for every caller. Its rows are xr_. -/
abbrev xm_E : Type := (Nat × List Value) ⊕ (Nat × Nat × (Nat → Value))
abbrev xm_H : Type := (Nat → Option xm_E) × Nat × Nat
abbrev xm_F : Type := Nat × List (Option Value) × List Value
/-- the facts by which the tables tell of a field, a class, a method that an instruction names: each is a row of part 03 -/
def xm_okF (o i ci k : Nat) : Prop := ∃ (C : String) (T : u_T) (N : Nat), xt_cl[ci]? = some (C, T, N) ∧ k < N ∧ Cond.fieldLink (xt_nm o) i (T k).1 (T k).2.1 (T k).2.2.1 ∈ xt_ws
def xm_okN (o i ci : Nat) : Prop := ∃ (C : String) (T : u_T) (N : Nat), xt_cl[ci]? = some (C, T, N) ∧ Cond.classLink (xt_nm o) i C ∈ xt_ws
def xm_okA (o i t : Nat) : Prop := ∃ C : String, xt_at[t]? = some (.object C) ∧ Cond.classLink (xt_nm o) i C ∈ xt_ws
def xm_okL (o i : Nat) (v : Int32) : Prop := Cond.constant (xt_nm o) i v ∈ xt_ws
def xm_okO (o i : Nat) : Prop := Cond.methodLink (xt_nm o) i objectInit ∈ xt_ws ∧ Cond.instanceMethod objectInit ∈ xt_ws ∧ Cond.code objectInit ⟨#[0xb1]⟩ 1 none ∈ xt_ws
def xm_okM (z : xm_M) : Prop := plainName (xt_y z).cls = true ∧ (xt_y z).cls = xt_nm (xt_own z) ∧ Cond.code (xt_y z) (xt_code z) (xt_maxL z) (xt_ret z) ∈ xt_ws ∧ Cond.initialized (xt_y z).cls ∈ xt_ws ∧ ((xt_y z).cls ≠ "java/lang/invoke/MethodHandle" ∧ (xt_y z).cls ≠ "java/lang/invoke/VarHandle" ∧ (parseMethodDescriptor (xt_y z).desc).map (fun d => d.parameters.length) = some (xt_np z)) ∧ xt_maxL z + 19 ≤ xt_LM
def xm_okV (o i : Nat) (z : xm_M) : Prop := xm_okM z ∧ Cond.methodLink (xt_nm o) i (xt_y z) ∈ xt_ws ∧ Cond.instanceMethod (xt_y z) ∈ xt_ws ∧ Cond.selects (xt_y z).cls (xt_y z) (xt_y z) ∈ xt_ws ∧ xt_np z + 1 ≤ xt_maxL z ∧ ∃ (T : u_T) (N : Nat), xt_cl[xt_own z]? = some (xt_nm (xt_own z), T, N)
def xm_okS (o i : Nat) (z : xm_M) : Prop := xm_okM z ∧ Cond.methodLink (xt_nm o) i (xt_y z) ∈ xt_ws ∧ Cond.static (xt_y z) ∈ xt_ws ∧ xt_np z ≤ xt_maxL z
def xm_okI (o i : Nat) (z : xm_M) : Prop := xm_okM z ∧ Cond.methodLink (xt_nm o) i (xt_y z) ∈ xt_ws ∧ Cond.instanceMethod (xt_y z) ∈ xt_ws ∧ (xt_y z).name = "<init>" ∧ xt_ret z = none ∧ xt_np z + 1 ≤ xt_maxL z
/-- what stays the same through the whole run: the launch, where the law's own cells begin, the script's address, length and ints, the classes' numbers and slots, the array classes' numbers -/
abbrev xm_G : Type := Launch × Nat × Nat × Nat × (Nat → Int32) × va_G × (Nat → ClassId)
abbrev xm_l (g : xm_G) : Launch := g.1
abbrev xm_N (g : xm_G) : Nat := g.2.1
abbrev xm_b (g : xm_G) : Nat := g.2.2.1
abbrev xm_n (g : xm_G) : Nat := g.2.2.2.1
abbrev xm_x (g : xm_G) : Nat → Int32 := g.2.2.2.2.1
abbrev xm_D (g : xm_G) : va_G := g.2.2.2.2.2.1
abbrev xm_A (g : xm_G) : Nat → ClassId := g.2.2.2.2.2.2
def xm_up (f : Nat → Option xm_E) (a : Nat) (e : xm_E) : Nat → Option xm_E := fun q => if q = a then some e else f q
theorem xm_up_self (f : Nat → Option xm_E) (a : Nat) (e : xm_E) : xm_up f a e a = some e := by simp [xm_up]
theorem xm_up_ne (f : Nat → Option xm_E) {a q : Nat} (e : xm_E) (h : q ≠ a) : xm_up f a e q = f q := by simp [xm_up, h]
/-- a cell of the real heap is as the picture says -/
def xm_at (g : xm_G) (a : Nat) (e : xm_E) (H : Heap) : Prop := match e with
  | .inl o => ∃ r : vw_C, xt_cl[o.1]? = some r ∧ o.2.length = r.2.2 ∧ t_OB a ((xm_D g).1 o.1) r.2.2 ((xm_D g).2 o.1) H (vp_V o.2)
  | .inr x => H[a]? = some (arrV (xm_A g x.1) x.2.1 x.2.2)
theorem xm_at.kept {g : xm_G} {a : Nat} {e : xm_E} {H H1 : Heap} (h : xm_at g a e H) (hq : H1[a]? = H[a]?) : xm_at g a e H1 := by
  cases e with
  | inl o =>
    obtain ⟨r, h1, h2, h3⟩ := h
    exact ⟨r, h1, h2, h3.kept hq⟩
  | inr x => exact hq.trans h
theorem xm_at.lt {g : xm_G} {a : Nat} {e : xm_E} {H : Heap} (h : xm_at g a e H) : a < H.size := by
  cases e with
  | inl o =>
    obtain ⟨r, h1, h2, cell, h3, -⟩ := h
    exact (Array.getElem?_eq_some_iff.mp h3).1
  | inr x => exact (Array.getElem?_eq_some_iff.mp h).1
def xm_R (g : xm_G) (h : xm_H) (U : State) (H : Heap) : Prop :=
  H.size = h.2.1 ∧ xm_N g ≤ H.size ∧ xm_b g < xm_N g ∧ va_X (xm_b g) (xm_n g) (xm_x g) U H ∧
  (∀ (a : Nat) (e : xm_E), h.1 a = some e → xm_N g ≤ a ∧ xm_at g a e H) ∧
  va_K (xm_D g) xt_cl [] U ∧ ∀ (t : Nat) (ty : FieldType), xt_at[t]? = some ty → ArrOfT U (xm_A g t) ty ∧ va_RA U (xm_A g t) ty ∧ ∀ C : String, ty = .object C → va_AO C U
theorem xm_R.moved {g : xm_G} {h : xm_H} {u U : State} {H : Heap} (hvm : u.vm.Alike U.vm) (hX : xm_R g h u H) : xm_R g h U H := by
  obtain ⟨h1, h2, h3, h4, h5, h6, h7⟩ := hX
  exact ⟨h1, h2, h3, h4.moved hvm, h5, h6.moved hvm, fun t ty ht => ⟨arrOfT_moved hvm (h7 t ty ht).1, (h7 t ty ht).2.1.moved hvm, fun C hC => ((h7 t ty ht).2.2 C hC).moved hvm⟩⟩
/-- one cell is written -/
theorem xm_R.set {g : xm_G} {h : xm_H} {U : State} {H H1 : Heap} {a : Nat} {e : xm_E} (hX : xm_R g h U H) (ha : xm_N g ≤ a) (he : xm_at g a e H1) (z : H1.size = H.size) (oq : ∀ q : Nat, q ≠ a → H1[q]? = H[q]?) : xm_R g (xm_up h.1 a e, h.2) U H1 := by
  obtain ⟨h1, h2, h3, h4, h5, h6, h7⟩ := hX
  refine ⟨by rw [z]; exact h1, by rw [z]; exact h2, h3, h4.kept (oq _ (by omega)), fun q e' hq => ?_, h6, h7⟩
  by_cases hqa : q = a
  · subst hqa
    rw [show (xm_up h.1 q e, h.2).1 q = some e from xm_up_self _ _ _] at hq
    cases hq
    exact ⟨ha, he⟩
  · rw [show (xm_up h.1 a e, h.2).1 q = h.1 q from xm_up_ne _ _ hqa] at hq
    obtain ⟨p1, p2⟩ := h5 q e' hq
    exact ⟨p1, p2.kept (oq q hqa)⟩
/-- one cell is made -/
theorem xm_R.push {g : xm_G} {h : xm_H} {U : State} {H H1 : Heap} {e : xm_E} {n : Nat} (hX : xm_R g h U H) (he : xm_at g h.2.1 e H1) (z : H1.size = H.size + 1) (oq : ∀ q : Nat, q < H.size → H1[q]? = H[q]?) : xm_R g (xm_up h.1 h.2.1 e, h.2.1 + 1, h.2.2 + n) U H1 := by
  obtain ⟨h1, h2, h3, h4, h5, h6, h7⟩ := hX
  refine ⟨by rw [z, h1], by rw [z]; omega, h3, h4.kept (oq _ (by omega)), fun q e' hq => ?_, h6, h7⟩
  by_cases hqa : q = h.2.1
  · rw [hqa, show (xm_up h.1 h.2.1 e, h.2.1 + 1, h.2.2 + n).1 h.2.1 = some e from xm_up_self _ _ _] at hq
    cases hq
    rw [hqa]
    exact ⟨by omega, he⟩
  · rw [show (xm_up h.1 h.2.1 e, h.2.1 + 1, h.2.2 + n).1 q = h.1 q from xm_up_ne _ _ hqa] at hq
    obtain ⟨p1, p2⟩ := h5 q e' hq
    exact ⟨p1, p2.kept (oq q p2.lt)⟩
theorem xm_R.obj {g : xm_G} {h : xm_H} {U : State} {H : Heap} {a ci : Nat} {fs : List Value} (hX : xm_R g h U H) (ha : h.1 a = some (.inl (ci, fs))) : xm_N g ≤ a ∧ va_P (xm_D g) xt_cl [(a, .inr (ci, fs))] H ∧ ∃ r : vw_C, xt_cl[ci]? = some r ∧ fs.length = r.2.2 := by
  obtain ⟨p1, r, q1, q2, q3⟩ := hX.2.2.2.2.1 a _ ha
  refine ⟨p1, fun k q hk => ?_, r, q1, q2⟩
  have hz : k < 1 := (List.getElem?_eq_some_iff.mp hk).1
  rw [show k = 0 by omega] at hk
  cases hk
  exact ⟨r, q1, q3⟩
theorem xm_R.arr {g : xm_G} {h : xm_H} {U : State} {H : Heap} {a t n : Nat} {f : Nat → Value} (hX : xm_R g h U H) (ha : h.1 a = some (.inr (t, n, f))) : xm_N g ≤ a ∧ H[a]? = some (arrV (xm_A g t) n f) := hX.2.2.2.2.1 a _ ha
/-- the locals -/
def xm_L (la : Array Slot) (ls : List (Option Value)) : Prop := la.size = ls.length ∧ lv_wf la ∧ ∀ (k : Nat) (v : Value), ls[k]? = some (some v) → la[k]? = some (.val v) ∧ v.category = 1
def xm_al (ls : List (Option Value)) : List (Nat × Value) := (List.range ls.length).filterMap fun k => match ls[k]? with
  | some (some v) => some (k, v)
  | _ => none
theorem xm_al_mem {ls : List (Option Value)} {q : Nat × Value} : q ∈ xm_al ls ↔ ls[q.1]? = some (some q.2) := by
  unfold xm_al
  rw [List.mem_filterMap]
  constructor
  · rintro ⟨k, -, h⟩
    split at h
    next v hv => cases h; exact hv
    next => cases h
  · intro h
    refine ⟨q.1, List.mem_range.mpr (List.getElem?_eq_some_iff.mp h).1, ?_⟩
    rw [h]
theorem xm_L.has {la : Array Slot} {ls : List (Option Value)} (h : xm_L la ls) : lv_has la ls.length (xm_al ls) := ⟨h.1, h.2.1, fun q hq => (h.2.2 q.1 q.2 (xm_al_mem.mp hq)).1⟩
theorem xm_L.of {la : Array Slot} {ls : List (Option Value)} {i : Nat} {v : Value} (h : xm_L la ls) (hc : v.category = 1) {la' : Array Slot} (hi : i < ls.length) (h' : lv_has la' ls.length ((i, v) :: (xm_al ls).filter (fun q => !(q.1 == i) && !(q.1 + 1 == i && q.2.category == 2)))) : xm_L la' (ls.set i (some v)) := by
  refine ⟨by rw [h'.1, List.length_set], h'.2.1, fun k w hk => ?_⟩
  by_cases hki : k = i
  · subst hki
    rw [List.getElem?_set_self hi] at hk
    cases hk
    exact ⟨h'.2.2 (k, v) List.mem_cons_self, hc⟩
  · rw [List.getElem?_set_ne (Ne.symm hki)] at hk
    obtain ⟨-, c1⟩ := h.2.2 k w hk
    refine ⟨h'.2.2 (k, w) (List.mem_cons_of_mem _ (List.mem_filter.mpr ⟨xm_al_mem.mpr hk, ?_⟩)), c1⟩
    simp [hki, c1]
/-- how a method ends -/
def xm_ret (y : xm_M) (I : Jvm.ClassFile.Instr) (st : List Value) (r : Option Value) : Prop :=
  (I = .ireturn ∧ ∃ (v : Int32) (ty : FieldType), st = [.int v] ∧ r = some (.int v) ∧ xt_ret y = some ty ∧ narrow ty (.int v) = .int v) ∨
  (I = .return_ ∧ st = [] ∧ r = none ∧ xt_ret y = none) ∨
  (I = .areturn ∧ ∃ (v : Value) (ty : FieldType), st = [v] ∧ r = some v ∧ xt_ret y = some ty ∧ ((∃ n, ty = .object n) ∨ ∃ t, ty = .array t) ∧ (v = .null ∨ ∃ a, v = .ref a))
def xm_C (p : Program) (s : State) (m : MethodId) (args : Array Value) (meth : Method) (c : Code) (y : xm_M) : Prop :=
  p.tables.exec = Jvm.exec ∧ c.code = xt_code y ∧ meth.sig.returnType = xt_ret y ∧ c.maxLocals = xt_maxL y ∧ s.vm.findClass (xt_nm (xt_own y)) = some m.cls ∧ (∀ w ∈ xt_ws, w.before args s = true) ∧ meth.locks = false ∧ ((xt_y y).name = "<init>" → meth.name = "<init>")
/-- THE JUDGEMENT: method y, d calls deep at most, from the frame f and the picture h, ends with an answer and a picture of which Q holds -/
def xm_S (g : xm_G) (d : Nat) (y : xm_M) (f : xm_F) (h : xm_H) (Q : Option Value → xm_H → Prop) : Prop :=
  ∃ (r : Option Value) (h' : xm_H), Q r h' ∧ h.2.1 ≤ h'.2.1 ∧ h.2.2 ≤ h'.2.2 ∧ f.2.1.length = xt_maxL y ∧
  ∀ (p : Program) (e : Env) (R : Room) (s : State) (m : MethodId) (args : Array Value) (below : List Frame) (meth : Method) (c : Code) (H : Heap) (locs : List Loc) (cells slots : Nat) (Z : State → Prop) (la : Array Slot),
    xm_C p s m args meth c y → (d ≤ R.frames ∧ d * xt_LM ≤ R.locals ∧ cells + (h'.2.1 - h.2.1) ≤ R.cells ∧ slots + (h'.2.2 - h.2.2) ≤ R.slots) →
    xm_R g h s H → va_S (fun q => xm_N g ≤ q) s.heap H locs → xm_L la f.2.1 →
    (∀ (pc' : Nat) (la' : Array Slot) (H' : Heap) (locs' : List Loc) (I : Jvm.ClassFile.Instr) (st' : List Value), decode (xt_code y) pc' = .ok (I, 1) → xm_ret y I st' r → xm_R g h' s H' → va_S (fun q => xm_N g ≤ q) s.heap H' locs' →
      W p (xm_l g) e R s m args below meth c H' locs' (cells + (h'.2.1 - h.2.1)) (slots + (h'.2.2 - h.2.2)) Z (F0 m pc' la' st')) →
    W p (xm_l g) e R s m args below meth c H locs cells slots Z (F0 m f.1 la f.2.2)
theorem xm_S.imp {g : xm_G} {d : Nat} {y : xm_M} {f : xm_F} {h : xm_H} {Q Q' : Option Value → xm_H → Prop} (hS : xm_S g d y f h Q) (hQ : ∀ r h', Q r h' → Q' r h') : xm_S g d y f h Q' := by
  obtain ⟨r, h', hq, k⟩ := hS
  exact ⟨r, h', hQ r h' hq, k⟩
theorem xm_S.up {g : xm_G} {d d' : Nat} {y : xm_M} {f : xm_F} {h : xm_H} {Q : Option Value → xm_H → Prop} (hd : d ≤ d') (hS : xm_S g d y f h Q) : xm_S g d' y f h Q := by
  obtain ⟨r, h', hq, h1, h2, h3, k⟩ := hS
  exact ⟨r, h', hq, h1, h2, h3, fun p e R s m args below meth c H locs cells slots Z la C hR => k p e R s m args below meth c H locs cells slots Z la C ⟨Nat.le_trans hd hR.1, Nat.le_trans (Nat.mul_le_mul_right _ hd) hR.2.1, hR.2.2⟩⟩
/-- an instruction that changes the frame alone, and of the locals nothing -/
theorem xm_pure {g : xm_G} {d pc pc' : Nat} {y : xm_M} {ls : List (Option Value)} {st st' : List Value} {h : xm_H} {Q : Option Value → xm_H → Prop}
    (hw : ∀ (p : Program) (e : Env) (R : Room) (s : State) (m : MethodId) (args : Array Value) (below : List Frame) (meth : Method) (c : Code) (H : Heap) (locs : List Loc) (cells slots : Nat) (Z : State → Prop) (la : Array Slot), xm_C p s m args meth c y → xm_R g h s H → xm_L la ls → W p (xm_l g) e R s m args below meth c H locs cells slots Z (F0 m pc' la st') → W p (xm_l g) e R s m args below meth c H locs cells slots Z (F0 m pc la st))
    (K : xm_S g d y (pc', ls, st') h Q) : xm_S g d y (pc, ls, st) h Q := by
  obtain ⟨r, h', hq, h1, h2, h3, k⟩ := K
  exact ⟨r, h', hq, h1, h2, h3, fun p e R s m args below meth c H locs cells slots Z la C hR hX hS hl kr => hw p e R s m args below meth c H locs cells slots Z la C hX hl (k p e R s m args below meth c H locs cells slots Z la C hR hX hS hl kr)⟩
end
section
/-! rows of the frame alone: an instruction a row -/
theorem xr_null {g : xm_G} {d pc : Nat} {y : xm_M} {ls : List (Option Value)} {st : List Value} {h : xm_H} {Q : Option Value → xm_H → Prop}  (hd : decode (xt_code y) pc = .ok (.aconst_null, 1))  (K : xm_S g d y (pc + 1, ls, .null :: st) h Q) : xm_S g d y (pc, ls, st) h Q :=
  xm_pure (fun _ _ _ _ _ _ _ _ _ _ _ _ _ _ _ C hX hl k => lv_null C.1 C.2.1 hd k) K
theorem xr_iconst {g : xm_G} {d pc : Nat} {y : xm_M} {ls : List (Option Value)} {st : List Value} {h : xm_H} {Q : Option Value → xm_H → Prop} {n : Int} {v : Int32}  (hd : decode (xt_code y) pc = .ok (.iconst n, 1)) (hv : Int32.ofInt n = v) (K : xm_S g d y (pc + 1, ls, .int v :: st) h Q) : xm_S g d y (pc, ls, st) h Q :=
  xm_pure (fun _ _ _ _ _ _ _ _ _ _ _ _ _ _ _ C hX hl k => lv_iconst C.1 C.2.1 hd hv k) K
theorem xr_bipush {g : xm_G} {d pc : Nat} {y : xm_M} {ls : List (Option Value)} {st : List Value} {h : xm_H} {Q : Option Value → xm_H → Prop} {n : Int} {v : Int32}  (hd : decode (xt_code y) pc = .ok (.bipush n, 2)) (hv : (Int8.ofInt n).toInt32 = v) (K : xm_S g d y (pc + 2, ls, .int v :: st) h Q) : xm_S g d y (pc, ls, st) h Q :=
  xm_pure (fun _ _ _ _ _ _ _ _ _ _ _ _ _ _ _ C hX hl k => lv_bipush C.1 C.2.1 hd hv k) K
theorem xr_sipush {g : xm_G} {d pc : Nat} {y : xm_M} {ls : List (Option Value)} {st : List Value} {h : xm_H} {Q : Option Value → xm_H → Prop} {n : Int} {v : Int32}  (hd : decode (xt_code y) pc = .ok (.sipush n, 3)) (hv : (Int16.ofInt n).toInt32 = v) (K : xm_S g d y (pc + 3, ls, .int v :: st) h Q) : xm_S g d y (pc, ls, st) h Q :=
  xm_pure (fun _ _ _ _ _ _ _ _ _ _ _ _ _ _ _ C hX hl k => lv_sipush C.1 C.2.1 hd hv k) K
theorem xr_ldc {g : xm_G} {d pc : Nat} {y : xm_M} {ls : List (Option Value)} {st : List Value} {h : xm_H} {Q : Option Value → xm_H → Prop} {i : Nat} {v : Int32}  (hd : decode (xt_code y) pc = .ok (.ldc i, 2)) (hv : xm_okL (xt_own y) i v) (K : xm_S g d y (pc + 2, ls, .int v :: st) h Q) : xm_S g d y (pc, ls, st) h Q :=
  xm_pure (fun _ _ _ _ _ _ _ _ _ _ _ _ _ _ _ C hX hl k => lv_ldc C.1 C.2.1 C.2.2.2.2.1 (C.2.2.2.2.2.1 _ hv) hd k) K
theorem xr_iload {g : xm_G} {d pc : Nat} {y : xm_M} {ls : List (Option Value)} {st : List Value} {h : xm_H} {Q : Option Value → xm_H → Prop} {i : Nat} {x : Int32}  (hd : decode (xt_code y) pc = .ok (.iload i, 2)) (hv : ls[i]? = some (some (.int x))) (K : xm_S g d y (pc + 2, ls, .int x :: st) h Q) : xm_S g d y (pc, ls, st) h Q :=
  xm_pure (fun _ _ _ _ _ _ _ _ _ _ _ _ _ _ _ C hX hl k => lv_iload C.1 C.2.1 hd (hl.2.2 _ _ hv).1 k) K
theorem xr_iload_n {g : xm_G} {d pc : Nat} {y : xm_M} {ls : List (Option Value)} {st : List Value} {h : xm_H} {Q : Option Value → xm_H → Prop} {i : Fin 4} {x : Int32}  (hd : decode (xt_code y) pc = .ok (.iload_n i, 1)) (hv : ls[(i : Nat)]? = some (some (.int x))) (K : xm_S g d y (pc + 1, ls, .int x :: st) h Q) : xm_S g d y (pc, ls, st) h Q :=
  xm_pure (fun _ _ _ _ _ _ _ _ _ _ _ _ _ _ _ C hX hl k => lv_iload_n C.1 C.2.1 hd rfl (hl.2.2 _ _ hv).1 k) K
theorem xr_aload {g : xm_G} {d pc : Nat} {y : xm_M} {ls : List (Option Value)} {st : List Value} {h : xm_H} {Q : Option Value → xm_H → Prop} {i : Nat} {x : Nat}  (hd : decode (xt_code y) pc = .ok (.aload i, 2)) (hv : ls[i]? = some (some (.ref x))) (K : xm_S g d y (pc + 2, ls, .ref x :: st) h Q) : xm_S g d y (pc, ls, st) h Q :=
  xm_pure (fun _ _ _ _ _ _ _ _ _ _ _ _ _ _ _ C hX hl k => lv_aload C.1 C.2.1 hd (hl.2.2 _ _ hv).1 k) K
theorem xr_aload_n {g : xm_G} {d pc : Nat} {y : xm_M} {ls : List (Option Value)} {st : List Value} {h : xm_H} {Q : Option Value → xm_H → Prop} {i : Fin 4} {x : Nat}  (hd : decode (xt_code y) pc = .ok (.aload_n i, 1)) (hv : ls[(i : Nat)]? = some (some (.ref x))) (K : xm_S g d y (pc + 1, ls, .ref x :: st) h Q) : xm_S g d y (pc, ls, st) h Q :=
  xm_pure (fun _ _ _ _ _ _ _ _ _ _ _ _ _ _ _ C hX hl k => lv_aload_n C.1 C.2.1 hd rfl (hl.2.2 _ _ hv).1 k) K
theorem xr_aloadN {g : xm_G} {d pc : Nat} {y : xm_M} {ls : List (Option Value)} {st : List Value} {h : xm_H} {Q : Option Value → xm_H → Prop} {i : Nat}  (hd : decode (xt_code y) pc = .ok (.aload i, 2)) (hv : ls[i]? = some (some .null)) (K : xm_S g d y (pc + 2, ls, .null :: st) h Q) : xm_S g d y (pc, ls, st) h Q :=
  xm_pure (fun _ _ _ _ _ _ _ _ _ _ _ _ _ _ _ C hX hl k => lv_aloadN C.1 C.2.1 hd (hl.2.2 _ _ hv).1 k) K
theorem xr_aload_nN {g : xm_G} {d pc : Nat} {y : xm_M} {ls : List (Option Value)} {st : List Value} {h : xm_H} {Q : Option Value → xm_H → Prop} {i : Fin 4}  (hd : decode (xt_code y) pc = .ok (.aload_n i, 1)) (hv : ls[(i : Nat)]? = some (some .null)) (K : xm_S g d y (pc + 1, ls, .null :: st) h Q) : xm_S g d y (pc, ls, st) h Q :=
  xm_pure (fun _ _ _ _ _ _ _ _ _ _ _ _ _ _ _ C hX hl k => lv_aload_nN C.1 C.2.1 hd rfl (hl.2.2 _ _ hv).1 k) K
theorem xr_iadd {g : xm_G} {d pc : Nat} {y : xm_M} {ls : List (Option Value)} {st : List Value} {h : xm_H} {Q : Option Value → xm_H → Prop} {x z : Int32} (hd : decode (xt_code y) pc = .ok (.iadd, 1))  (K : xm_S g d y (pc + 1, ls, .int (x + z) :: st) h Q) : xm_S g d y (pc, ls, .int z :: .int x :: st) h Q :=
  xm_pure (fun _ _ _ _ _ _ _ _ _ _ _ _ _ _ _ C hX hl k => lv_iadd C.1 C.2.1 hd k) K
theorem xr_isub {g : xm_G} {d pc : Nat} {y : xm_M} {ls : List (Option Value)} {st : List Value} {h : xm_H} {Q : Option Value → xm_H → Prop} {x z : Int32} (hd : decode (xt_code y) pc = .ok (.isub, 1))  (K : xm_S g d y (pc + 1, ls, .int (x - z) :: st) h Q) : xm_S g d y (pc, ls, .int z :: .int x :: st) h Q :=
  xm_pure (fun _ _ _ _ _ _ _ _ _ _ _ _ _ _ _ C hX hl k => lv_isub C.1 C.2.1 hd k) K
theorem xr_imul {g : xm_G} {d pc : Nat} {y : xm_M} {ls : List (Option Value)} {st : List Value} {h : xm_H} {Q : Option Value → xm_H → Prop} {x z : Int32} (hd : decode (xt_code y) pc = .ok (.imul, 1))  (K : xm_S g d y (pc + 1, ls, .int (x * z) :: st) h Q) : xm_S g d y (pc, ls, .int z :: .int x :: st) h Q :=
  xm_pure (fun _ _ _ _ _ _ _ _ _ _ _ _ _ _ _ C hX hl k => lv_imul C.1 C.2.1 hd k) K
theorem xr_iand {g : xm_G} {d pc : Nat} {y : xm_M} {ls : List (Option Value)} {st : List Value} {h : xm_H} {Q : Option Value → xm_H → Prop} {x z : Int32} (hd : decode (xt_code y) pc = .ok (.iand, 1))  (K : xm_S g d y (pc + 1, ls, .int (x &&& z) :: st) h Q) : xm_S g d y (pc, ls, .int z :: .int x :: st) h Q :=
  xm_pure (fun _ _ _ _ _ _ _ _ _ _ _ _ _ _ _ C hX hl k => lv_iand C.1 C.2.1 hd k) K
theorem xr_ior {g : xm_G} {d pc : Nat} {y : xm_M} {ls : List (Option Value)} {st : List Value} {h : xm_H} {Q : Option Value → xm_H → Prop} {x z : Int32} (hd : decode (xt_code y) pc = .ok (.ior, 1))  (K : xm_S g d y (pc + 1, ls, .int (x ||| z) :: st) h Q) : xm_S g d y (pc, ls, .int z :: .int x :: st) h Q :=
  xm_pure (fun _ _ _ _ _ _ _ _ _ _ _ _ _ _ _ C hX hl k => lv_ior C.1 C.2.1 hd k) K
theorem xr_ixor {g : xm_G} {d pc : Nat} {y : xm_M} {ls : List (Option Value)} {st : List Value} {h : xm_H} {Q : Option Value → xm_H → Prop} {x z : Int32} (hd : decode (xt_code y) pc = .ok (.ixor, 1))  (K : xm_S g d y (pc + 1, ls, .int (x ^^^ z) :: st) h Q) : xm_S g d y (pc, ls, .int z :: .int x :: st) h Q :=
  xm_pure (fun _ _ _ _ _ _ _ _ _ _ _ _ _ _ _ C hX hl k => lv_ixor C.1 C.2.1 hd k) K
theorem xr_ishl {g : xm_G} {d pc : Nat} {y : xm_M} {ls : List (Option Value)} {st : List Value} {h : xm_H} {Q : Option Value → xm_H → Prop} {x z : Int32} (hd : decode (xt_code y) pc = .ok (.ishl, 1))  (K : xm_S g d y (pc + 1, ls, .int (x <<< (z &&& 31)) :: st) h Q) : xm_S g d y (pc, ls, .int z :: .int x :: st) h Q :=
  xm_pure (fun _ _ _ _ _ _ _ _ _ _ _ _ _ _ _ C hX hl k => lv_ishl C.1 C.2.1 hd k) K
theorem xr_ishr {g : xm_G} {d pc : Nat} {y : xm_M} {ls : List (Option Value)} {st : List Value} {h : xm_H} {Q : Option Value → xm_H → Prop} {x z : Int32} (hd : decode (xt_code y) pc = .ok (.ishr, 1))  (K : xm_S g d y (pc + 1, ls, .int (x >>> (z &&& 31)) :: st) h Q) : xm_S g d y (pc, ls, .int z :: .int x :: st) h Q :=
  xm_pure (fun _ _ _ _ _ _ _ _ _ _ _ _ _ _ _ C hX hl k => lv_ishr C.1 C.2.1 hd k) K
theorem xr_iushr {g : xm_G} {d pc : Nat} {y : xm_M} {ls : List (Option Value)} {st : List Value} {h : xm_H} {Q : Option Value → xm_H → Prop} {x z : Int32} (hd : decode (xt_code y) pc = .ok (.iushr, 1))  (K : xm_S g d y (pc + 1, ls, .int (x.toUInt32 >>> (z.toUInt32 &&& Int32.toUInt32 31)).toInt32 :: st) h Q) : xm_S g d y (pc, ls, .int z :: .int x :: st) h Q :=
  xm_pure (fun _ _ _ _ _ _ _ _ _ _ _ _ _ _ _ C hX hl k => lv_iushr C.1 C.2.1 hd rfl k) K
theorem xr_idiv {g : xm_G} {d pc : Nat} {y : xm_M} {ls : List (Option Value)} {st : List Value} {h : xm_H} {Q : Option Value → xm_H → Prop} {x z : Int32}  (hd : decode (xt_code y) pc = .ok (.idiv, 1)) (hz : ¬ z = 0) (K : xm_S g d y (pc + 1, ls, .int (x / z) :: st) h Q) : xm_S g d y (pc, ls, .int z :: .int x :: st) h Q :=
  xm_pure (fun _ _ _ _ _ _ _ _ _ _ _ _ _ _ _ C hX hl k => lv_idiv C.1 C.2.1 hd hz k) K
theorem xr_irem {g : xm_G} {d pc : Nat} {y : xm_M} {ls : List (Option Value)} {st : List Value} {h : xm_H} {Q : Option Value → xm_H → Prop} {x z : Int32}  (hd : decode (xt_code y) pc = .ok (.irem, 1)) (hz : ¬ z = 0) (K : xm_S g d y (pc + 1, ls, .int (x - x / z * z) :: st) h Q) : xm_S g d y (pc, ls, .int z :: .int x :: st) h Q :=
  xm_pure (fun _ _ _ _ _ _ _ _ _ _ _ _ _ _ _ C hX hl k => lv_irem C.1 C.2.1 hd hz k) K
theorem xr_ineg {g : xm_G} {d pc : Nat} {y : xm_M} {ls : List (Option Value)} {st : List Value} {h : xm_H} {Q : Option Value → xm_H → Prop} {x : Int32} (hd : decode (xt_code y) pc = .ok (.ineg, 1))  (K : xm_S g d y (pc + 1, ls, .int (-x) :: st) h Q) : xm_S g d y (pc, ls, .int x :: st) h Q :=
  xm_pure (fun _ _ _ _ _ _ _ _ _ _ _ _ _ _ _ C hX hl k => lv_ineg C.1 C.2.1 hd k) K
theorem xr_dup {g : xm_G} {d pc : Nat} {y : xm_M} {ls : List (Option Value)} {st : List Value} {h : xm_H} {Q : Option Value → xm_H → Prop} {v : Value}  (hd : decode (xt_code y) pc = .ok (.dup, 1)) (hv : v.category = 1) (K : xm_S g d y (pc + 1, ls, v :: v :: st) h Q) : xm_S g d y (pc, ls, v :: st) h Q :=
  xm_pure (fun _ _ _ _ _ _ _ _ _ _ _ _ _ _ _ C hX hl k => lv_dup C.1 C.2.1 hd hv k) K
theorem xr_pop {g : xm_G} {d pc : Nat} {y : xm_M} {ls : List (Option Value)} {st : List Value} {h : xm_H} {Q : Option Value → xm_H → Prop} {v : Value}  (hd : decode (xt_code y) pc = .ok (.pop, 1)) (hv : v.category = 1) (K : xm_S g d y (pc + 1, ls, st) h Q) : xm_S g d y (pc, ls, v :: st) h Q :=
  xm_pure (fun _ _ _ _ _ _ _ _ _ _ _ _ _ _ _ C hX hl k => lv_pop C.1 C.2.1 hd hv k) K
theorem xr_dup_x1 {g : xm_G} {d pc : Nat} {y : xm_M} {ls : List (Option Value)} {st : List Value} {h : xm_H} {Q : Option Value → xm_H → Prop} {v w : Value}  (hd : decode (xt_code y) pc = .ok (.dup_x1, 1)) (hv : v.category = 1) (hw : w.category = 1) (K : xm_S g d y (pc + 1, ls, v :: w :: v :: st) h Q) : xm_S g d y (pc, ls, v :: w :: st) h Q :=
  xm_pure (fun _ _ _ _ _ _ _ _ _ _ _ _ _ _ _ C hX hl k => lv_dup_x1 C.1 C.2.1 hd hv hw k) K
theorem xr_dup_x2 {g : xm_G} {d pc : Nat} {y : xm_M} {ls : List (Option Value)} {st : List Value} {h : xm_H} {Q : Option Value → xm_H → Prop} {v w u : Value}  (hd : decode (xt_code y) pc = .ok (.dup_x2, 1)) (hv : v.category = 1) (hw : w.category = 1) (hu : u.category = 1) (K : xm_S g d y (pc + 1, ls, v :: w :: u :: v :: st) h Q) : xm_S g d y (pc, ls, v :: w :: u :: st) h Q :=
  xm_pure (fun _ _ _ _ _ _ _ _ _ _ _ _ _ _ _ C hX hl k => lv_dup_x2 C.1 C.2.1 hd hv hw hu k) K
theorem xr_dup2 {g : xm_G} {d pc : Nat} {y : xm_M} {ls : List (Option Value)} {st : List Value} {h : xm_H} {Q : Option Value → xm_H → Prop} {v w : Value}  (hd : decode (xt_code y) pc = .ok (.dup2, 1)) (hv : v.category = 1) (hw : w.category = 1) (K : xm_S g d y (pc + 1, ls, v :: w :: v :: w :: st) h Q) : xm_S g d y (pc, ls, v :: w :: st) h Q :=
  xm_pure (fun _ _ _ _ _ _ _ _ _ _ _ _ _ _ _ C hX hl k => lv_dup2_11 C.1 C.2.1 hd hv hw k) K
theorem xr_goto {g : xm_G} {d pc : Nat} {y : xm_M} {ls : List (Option Value)} {st : List Value} {h : xm_H} {Q : Option Value → xm_H → Prop} {off : Int} {tgt : Nat}  (hd : decode (xt_code y) pc = .ok (.goto off, 3)) (ht : (pc : Int) + off = (tgt : Int)) (K : xm_S g d y (tgt, ls, st) h Q) : xm_S g d y (pc, ls, st) h Q :=
  xm_pure (fun _ _ _ _ _ _ _ _ _ _ _ _ _ _ _ C hX hl k => lv_goto C.1 C.2.1 hd ht k) K
theorem xr_ifnullN {g : xm_G} {d pc : Nat} {y : xm_M} {ls : List (Option Value)} {st : List Value} {h : xm_H} {Q : Option Value → xm_H → Prop} {off : Int} {tgt : Nat}  (hd : decode (xt_code y) pc = .ok (.ifnull off, 3)) (ht : (pc : Int) + off = (tgt : Int)) (K : xm_S g d y (tgt, ls, st) h Q) : xm_S g d y (pc, ls, .null :: st) h Q :=
  xm_pure (fun _ _ _ _ _ _ _ _ _ _ _ _ _ _ _ C hX hl k => lv_ifnullN C.1 C.2.1 hd ht k) K
theorem xr_ifnull {g : xm_G} {d pc : Nat} {y : xm_M} {ls : List (Option Value)} {st : List Value} {h : xm_H} {Q : Option Value → xm_H → Prop} {off : Int} {x : Nat} (hd : decode (xt_code y) pc = .ok (.ifnull off, 3))  (K : xm_S g d y (pc + 3, ls, st) h Q) : xm_S g d y (pc, ls, .ref x :: st) h Q :=
  xm_pure (fun _ _ _ _ _ _ _ _ _ _ _ _ _ _ _ C hX hl k => lv_ifnull C.1 C.2.1 hd k) K
theorem xr_ifnonnullN {g : xm_G} {d pc : Nat} {y : xm_M} {ls : List (Option Value)} {st : List Value} {h : xm_H} {Q : Option Value → xm_H → Prop} {off : Int} (hd : decode (xt_code y) pc = .ok (.ifnonnull off, 3))  (K : xm_S g d y (pc + 3, ls, st) h Q) : xm_S g d y (pc, ls, .null :: st) h Q :=
  xm_pure (fun _ _ _ _ _ _ _ _ _ _ _ _ _ _ _ C hX hl k => lv_ifnonnullN C.1 C.2.1 hd k) K
theorem xr_ifnonnull {g : xm_G} {d pc : Nat} {y : xm_M} {ls : List (Option Value)} {st : List Value} {h : xm_H} {Q : Option Value → xm_H → Prop} {off : Int} {tgt x : Nat}  (hd : decode (xt_code y) pc = .ok (.ifnonnull off, 3)) (ht : (pc : Int) + off = (tgt : Int)) (K : xm_S g d y (tgt, ls, st) h Q) : xm_S g d y (pc, ls, .ref x :: st) h Q :=
  xm_pure (fun _ _ _ _ _ _ _ _ _ _ _ _ _ _ _ C hX hl k => lv_ifnonnull C.1 C.2.1 hd ht k) K
theorem xr_tableOut {g : xm_G} {d pc : Nat} {y : xm_M} {ls : List (Option Value)} {st : List Value} {h : xm_H} {Q : Option Value → xm_H → Prop} {dflt lo hi : Int} {offs : Array Int} {len : Nat} {x : Int32} {tgt : Nat}  (hd : decode (xt_code y) pc = .ok (.tableswitch dflt lo hi offs, len)) (hx : x.toInt < lo ∨ hi < x.toInt) (ht : (pc : Int) + dflt = (tgt : Int)) (K : xm_S g d y (tgt, ls, st) h Q) : xm_S g d y (pc, ls, .int x :: st) h Q :=
  xm_pure (fun _ _ _ _ _ _ _ _ _ _ _ _ _ _ _ C hX hl k => lv_tableOut C.1 C.2.1 hd hx ht k) K
theorem xr_tableIn {g : xm_G} {d pc : Nat} {y : xm_M} {ls : List (Option Value)} {st : List Value} {h : xm_H} {Q : Option Value → xm_H → Prop} {dflt lo hi : Int} {offs : Array Int} {len : Nat} {x : Int32} {off : Int} {tgt : Nat}  (hd : decode (xt_code y) pc = .ok (.tableswitch dflt lo hi offs, len)) (h1 : ¬ x.toInt < lo) (h2 : ¬ hi < x.toInt) (ho : offs[(x.toInt - lo).toNat]? = some off) (ht : (pc : Int) + off = (tgt : Int)) (K : xm_S g d y (tgt, ls, st) h Q) : xm_S g d y (pc, ls, .int x :: st) h Q :=
  xm_pure (fun _ _ _ _ _ _ _ _ _ _ _ _ _ _ _ C hX hl k => lv_tableIn C.1 C.2.1 hd h1 h2 ho ht k) K
theorem xr_lookup {g : xm_G} {d pc : Nat} {y : xm_M} {ls : List (Option Value)} {st : List Value} {h : xm_H} {Q : Option Value → xm_H → Prop} {dflt : Int} {ps : Array (Int × Int)} {len : Nat} {x : Int32} {off : Int} {tgt : Nat}  (hd : decode (xt_code y) pc = .ok (.lookupswitch dflt ps, len)) (hp : (ps.toList.zip (ps.toList.drop 1)).all (fun (a, next) => a.1 < next.1) = true) (ho : Op.lookupswitch.offset ps.toList dflt x.toInt = off) (ht : (pc : Int) + off = (tgt : Int)) (K : xm_S g d y (tgt, ls, st) h Q) : xm_S g d y (pc, ls, .int x :: st) h Q :=
  xm_pure (fun _ _ _ _ _ _ _ _ _ _ _ _ _ _ _ C hX hl k => lv_lookup C.1 C.2.1 hd hp ho ht k) K
theorem xr_icmp_eq {g : xm_G} {d pc : Nat} {y : xm_M} {ls : List (Option Value)} {st : List Value} {h : xm_H} {Q : Option Value → xm_H → Prop} {x z : Int32} {off : Int} {tgt : Nat} (hd : decode (xt_code y) pc = .ok (.if_icmp .eq off, 3)) (ht : (pc : Int) + off = (tgt : Int)) (kt : x = z → xm_S g d y (tgt, ls, st) h Q) (kf : ¬ x = z → xm_S g d y (pc + 3, ls, st) h Q) : xm_S g d y (pc, ls, .int z :: .int x :: st) h Q := by
  by_cases hc : x = z
  · exact xm_pure (fun _ _ _ _ _ _ _ _ _ _ _ _ _ _ _ C hX hl k => lv_icmp_eq C.1 C.2.1 hd ht (fun _ => k) (fun n => absurd hc (by simpa using n))) (kt hc)
  · exact xm_pure (fun _ _ _ _ _ _ _ _ _ _ _ _ _ _ _ C hX hl k => lv_icmp_eq C.1 C.2.1 hd ht (fun n => absurd n hc) (fun _ => k)) (kf (by simpa using hc))
theorem xr_if_eq {g : xm_G} {d pc : Nat} {y : xm_M} {ls : List (Option Value)} {st : List Value} {h : xm_H} {Q : Option Value → xm_H → Prop} {x : Int32} {off : Int} {tgt : Nat} (hd : decode (xt_code y) pc = .ok (.ifCond .eq off, 3)) (ht : (pc : Int) + off = (tgt : Int)) (kt : x = 0 → xm_S g d y (tgt, ls, st) h Q) (kf : ¬ x = 0 → xm_S g d y (pc + 3, ls, st) h Q) : xm_S g d y (pc, ls, .int x :: st) h Q := by
  by_cases hc : x = 0
  · exact xm_pure (fun _ _ _ _ _ _ _ _ _ _ _ _ _ _ _ C hX hl k => lv_if_eq C.1 C.2.1 hd ht (fun _ => k) (fun n => absurd hc (by simpa using n))) (kt hc)
  · exact xm_pure (fun _ _ _ _ _ _ _ _ _ _ _ _ _ _ _ C hX hl k => lv_if_eq C.1 C.2.1 hd ht (fun n => absurd n hc) (fun _ => k)) (kf (by simpa using hc))
theorem xr_icmp_ne {g : xm_G} {d pc : Nat} {y : xm_M} {ls : List (Option Value)} {st : List Value} {h : xm_H} {Q : Option Value → xm_H → Prop} {x z : Int32} {off : Int} {tgt : Nat} (hd : decode (xt_code y) pc = .ok (.if_icmp .ne off, 3)) (ht : (pc : Int) + off = (tgt : Int)) (kt : ¬ x = z → xm_S g d y (tgt, ls, st) h Q) (kf : x = z → xm_S g d y (pc + 3, ls, st) h Q) : xm_S g d y (pc, ls, .int z :: .int x :: st) h Q := by
  by_cases hc : ¬ x = z
  · exact xm_pure (fun _ _ _ _ _ _ _ _ _ _ _ _ _ _ _ C hX hl k => lv_icmp_ne C.1 C.2.1 hd ht (fun _ => k) (fun n => absurd hc (by simpa using n))) (kt hc)
  · exact xm_pure (fun _ _ _ _ _ _ _ _ _ _ _ _ _ _ _ C hX hl k => lv_icmp_ne C.1 C.2.1 hd ht (fun n => absurd n hc) (fun _ => k)) (kf (by simpa using hc))
theorem xr_if_ne {g : xm_G} {d pc : Nat} {y : xm_M} {ls : List (Option Value)} {st : List Value} {h : xm_H} {Q : Option Value → xm_H → Prop} {x : Int32} {off : Int} {tgt : Nat} (hd : decode (xt_code y) pc = .ok (.ifCond .ne off, 3)) (ht : (pc : Int) + off = (tgt : Int)) (kt : ¬ x = 0 → xm_S g d y (tgt, ls, st) h Q) (kf : x = 0 → xm_S g d y (pc + 3, ls, st) h Q) : xm_S g d y (pc, ls, .int x :: st) h Q := by
  by_cases hc : ¬ x = 0
  · exact xm_pure (fun _ _ _ _ _ _ _ _ _ _ _ _ _ _ _ C hX hl k => lv_if_ne C.1 C.2.1 hd ht (fun _ => k) (fun n => absurd hc (by simpa using n))) (kt hc)
  · exact xm_pure (fun _ _ _ _ _ _ _ _ _ _ _ _ _ _ _ C hX hl k => lv_if_ne C.1 C.2.1 hd ht (fun n => absurd n hc) (fun _ => k)) (kf (by simpa using hc))
theorem xr_icmp_lt {g : xm_G} {d pc : Nat} {y : xm_M} {ls : List (Option Value)} {st : List Value} {h : xm_H} {Q : Option Value → xm_H → Prop} {x z : Int32} {off : Int} {tgt : Nat} (hd : decode (xt_code y) pc = .ok (.if_icmp .lt off, 3)) (ht : (pc : Int) + off = (tgt : Int)) (kt : x < z → xm_S g d y (tgt, ls, st) h Q) (kf : ¬ x < z → xm_S g d y (pc + 3, ls, st) h Q) : xm_S g d y (pc, ls, .int z :: .int x :: st) h Q := by
  by_cases hc : x < z
  · exact xm_pure (fun _ _ _ _ _ _ _ _ _ _ _ _ _ _ _ C hX hl k => lv_icmp_lt C.1 C.2.1 hd ht (fun _ => k) (fun n => absurd hc (by simpa using n))) (kt hc)
  · exact xm_pure (fun _ _ _ _ _ _ _ _ _ _ _ _ _ _ _ C hX hl k => lv_icmp_lt C.1 C.2.1 hd ht (fun n => absurd n hc) (fun _ => k)) (kf (by simpa using hc))
theorem xr_if_lt {g : xm_G} {d pc : Nat} {y : xm_M} {ls : List (Option Value)} {st : List Value} {h : xm_H} {Q : Option Value → xm_H → Prop} {x : Int32} {off : Int} {tgt : Nat} (hd : decode (xt_code y) pc = .ok (.ifCond .lt off, 3)) (ht : (pc : Int) + off = (tgt : Int)) (kt : x < 0 → xm_S g d y (tgt, ls, st) h Q) (kf : ¬ x < 0 → xm_S g d y (pc + 3, ls, st) h Q) : xm_S g d y (pc, ls, .int x :: st) h Q := by
  by_cases hc : x < 0
  · exact xm_pure (fun _ _ _ _ _ _ _ _ _ _ _ _ _ _ _ C hX hl k => lv_if_lt C.1 C.2.1 hd ht (fun _ => k) (fun n => absurd hc (by simpa using n))) (kt hc)
  · exact xm_pure (fun _ _ _ _ _ _ _ _ _ _ _ _ _ _ _ C hX hl k => lv_if_lt C.1 C.2.1 hd ht (fun n => absurd n hc) (fun _ => k)) (kf (by simpa using hc))
theorem xr_icmp_ge {g : xm_G} {d pc : Nat} {y : xm_M} {ls : List (Option Value)} {st : List Value} {h : xm_H} {Q : Option Value → xm_H → Prop} {x z : Int32} {off : Int} {tgt : Nat} (hd : decode (xt_code y) pc = .ok (.if_icmp .ge off, 3)) (ht : (pc : Int) + off = (tgt : Int)) (kt : z ≤ x → xm_S g d y (tgt, ls, st) h Q) (kf : ¬ z ≤ x → xm_S g d y (pc + 3, ls, st) h Q) : xm_S g d y (pc, ls, .int z :: .int x :: st) h Q := by
  by_cases hc : z ≤ x
  · exact xm_pure (fun _ _ _ _ _ _ _ _ _ _ _ _ _ _ _ C hX hl k => lv_icmp_ge C.1 C.2.1 hd ht (fun _ => k) (fun n => absurd hc (by simpa using n))) (kt hc)
  · exact xm_pure (fun _ _ _ _ _ _ _ _ _ _ _ _ _ _ _ C hX hl k => lv_icmp_ge C.1 C.2.1 hd ht (fun n => absurd n hc) (fun _ => k)) (kf (by simpa using hc))
theorem xr_if_ge {g : xm_G} {d pc : Nat} {y : xm_M} {ls : List (Option Value)} {st : List Value} {h : xm_H} {Q : Option Value → xm_H → Prop} {x : Int32} {off : Int} {tgt : Nat} (hd : decode (xt_code y) pc = .ok (.ifCond .ge off, 3)) (ht : (pc : Int) + off = (tgt : Int)) (kt : 0 ≤ x → xm_S g d y (tgt, ls, st) h Q) (kf : ¬ 0 ≤ x → xm_S g d y (pc + 3, ls, st) h Q) : xm_S g d y (pc, ls, .int x :: st) h Q := by
  by_cases hc : 0 ≤ x
  · exact xm_pure (fun _ _ _ _ _ _ _ _ _ _ _ _ _ _ _ C hX hl k => lv_if_ge C.1 C.2.1 hd ht (fun _ => k) (fun n => absurd hc (by simpa using n))) (kt hc)
  · exact xm_pure (fun _ _ _ _ _ _ _ _ _ _ _ _ _ _ _ C hX hl k => lv_if_ge C.1 C.2.1 hd ht (fun n => absurd n hc) (fun _ => k)) (kf (by simpa using hc))
theorem xr_icmp_gt {g : xm_G} {d pc : Nat} {y : xm_M} {ls : List (Option Value)} {st : List Value} {h : xm_H} {Q : Option Value → xm_H → Prop} {x z : Int32} {off : Int} {tgt : Nat} (hd : decode (xt_code y) pc = .ok (.if_icmp .gt off, 3)) (ht : (pc : Int) + off = (tgt : Int)) (kt : z < x → xm_S g d y (tgt, ls, st) h Q) (kf : ¬ z < x → xm_S g d y (pc + 3, ls, st) h Q) : xm_S g d y (pc, ls, .int z :: .int x :: st) h Q := by
  by_cases hc : z < x
  · exact xm_pure (fun _ _ _ _ _ _ _ _ _ _ _ _ _ _ _ C hX hl k => lv_icmp_gt C.1 C.2.1 hd ht (fun _ => k) (fun n => absurd hc (by simpa using n))) (kt hc)
  · exact xm_pure (fun _ _ _ _ _ _ _ _ _ _ _ _ _ _ _ C hX hl k => lv_icmp_gt C.1 C.2.1 hd ht (fun n => absurd n hc) (fun _ => k)) (kf (by simpa using hc))
theorem xr_if_gt {g : xm_G} {d pc : Nat} {y : xm_M} {ls : List (Option Value)} {st : List Value} {h : xm_H} {Q : Option Value → xm_H → Prop} {x : Int32} {off : Int} {tgt : Nat} (hd : decode (xt_code y) pc = .ok (.ifCond .gt off, 3)) (ht : (pc : Int) + off = (tgt : Int)) (kt : 0 < x → xm_S g d y (tgt, ls, st) h Q) (kf : ¬ 0 < x → xm_S g d y (pc + 3, ls, st) h Q) : xm_S g d y (pc, ls, .int x :: st) h Q := by
  by_cases hc : 0 < x
  · exact xm_pure (fun _ _ _ _ _ _ _ _ _ _ _ _ _ _ _ C hX hl k => lv_if_gt C.1 C.2.1 hd ht (fun _ => k) (fun n => absurd hc (by simpa using n))) (kt hc)
  · exact xm_pure (fun _ _ _ _ _ _ _ _ _ _ _ _ _ _ _ C hX hl k => lv_if_gt C.1 C.2.1 hd ht (fun n => absurd n hc) (fun _ => k)) (kf (by simpa using hc))
theorem xr_icmp_le {g : xm_G} {d pc : Nat} {y : xm_M} {ls : List (Option Value)} {st : List Value} {h : xm_H} {Q : Option Value → xm_H → Prop} {x z : Int32} {off : Int} {tgt : Nat} (hd : decode (xt_code y) pc = .ok (.if_icmp .le off, 3)) (ht : (pc : Int) + off = (tgt : Int)) (kt : x ≤ z → xm_S g d y (tgt, ls, st) h Q) (kf : ¬ x ≤ z → xm_S g d y (pc + 3, ls, st) h Q) : xm_S g d y (pc, ls, .int z :: .int x :: st) h Q := by
  by_cases hc : x ≤ z
  · exact xm_pure (fun _ _ _ _ _ _ _ _ _ _ _ _ _ _ _ C hX hl k => lv_icmp_le C.1 C.2.1 hd ht (fun _ => k) (fun n => absurd hc (by simpa using n))) (kt hc)
  · exact xm_pure (fun _ _ _ _ _ _ _ _ _ _ _ _ _ _ _ C hX hl k => lv_icmp_le C.1 C.2.1 hd ht (fun n => absurd n hc) (fun _ => k)) (kf (by simpa using hc))
theorem xr_if_le {g : xm_G} {d pc : Nat} {y : xm_M} {ls : List (Option Value)} {st : List Value} {h : xm_H} {Q : Option Value → xm_H → Prop} {x : Int32} {off : Int} {tgt : Nat} (hd : decode (xt_code y) pc = .ok (.ifCond .le off, 3)) (ht : (pc : Int) + off = (tgt : Int)) (kt : x ≤ 0 → xm_S g d y (tgt, ls, st) h Q) (kf : ¬ x ≤ 0 → xm_S g d y (pc + 3, ls, st) h Q) : xm_S g d y (pc, ls, .int x :: st) h Q := by
  by_cases hc : x ≤ 0
  · exact xm_pure (fun _ _ _ _ _ _ _ _ _ _ _ _ _ _ _ C hX hl k => lv_if_le C.1 C.2.1 hd ht (fun _ => k) (fun n => absurd hc (by simpa using n))) (kt hc)
  · exact xm_pure (fun _ _ _ _ _ _ _ _ _ _ _ _ _ _ _ C hX hl k => lv_if_le C.1 C.2.1 hd ht (fun n => absurd n hc) (fun _ => k)) (kf (by simpa using hc))
theorem xr_ifnullQ {g : xm_G} {d pc : Nat} {y : xm_M} {ls : List (Option Value)} {st : List Value} {h : xm_H} {Q : Option Value → xm_H → Prop} {r : Option Nat} {off : Int} {tgt : Nat} (hd : decode (xt_code y) pc = .ok (.ifnull off, 3)) (ht : (pc : Int) + off = (tgt : Int)) (kt : r = none → xm_S g d y (tgt, ls, st) h Q) (kf : ∀ a, r = some a → xm_S g d y (pc + 3, ls, st) h Q) : xm_S g d y (pc, ls, va_rf r :: st) h Q := by
  cases r with
  | none => exact xr_ifnullN hd ht (kt rfl)
  | some a => exact xr_ifnull hd (kf a rfl)
theorem xr_ifnonnullQ {g : xm_G} {d pc : Nat} {y : xm_M} {ls : List (Option Value)} {st : List Value} {h : xm_H} {Q : Option Value → xm_H → Prop} {r : Option Nat} {off : Int} {tgt : Nat} (hd : decode (xt_code y) pc = .ok (.ifnonnull off, 3)) (ht : (pc : Int) + off = (tgt : Int)) (kt : ∀ a, r = some a → xm_S g d y (tgt, ls, st) h Q) (kf : r = none → xm_S g d y (pc + 3, ls, st) h Q) : xm_S g d y (pc, ls, va_rf r :: st) h Q := by
  cases r with
  | none => exact xr_ifnonnullN hd (kf rfl)
  | some a => exact xr_ifnonnull hd ht (kt a rfl)
theorem xr_acmp_eq {g : xm_G} {d pc : Nat} {y : xm_M} {ls : List (Option Value)} {st : List Value} {h : xm_H} {Q : Option Value → xm_H → Prop} {rx ry : Option Nat} {off : Int} {tgt : Nat} (hd : decode (xt_code y) pc = .ok (.if_acmp .eq off, 3)) (ht : (pc : Int) + off = (tgt : Int)) (kt : rx = ry → xm_S g d y (tgt, ls, st) h Q) (kf : ¬ rx = ry → xm_S g d y (pc + 3, ls, st) h Q) : xm_S g d y (pc, ls, va_rf ry :: va_rf rx :: st) h Q := by
  by_cases hc : rx = ry
  · exact xm_pure (fun _ _ _ _ _ _ _ _ _ _ _ _ _ _ _ C hX hl k => lv_acmp_eq C.1 C.2.1 hd ht (fun _ => k) (fun n => absurd hc (by simpa using n))) (kt hc)
  · exact xm_pure (fun _ _ _ _ _ _ _ _ _ _ _ _ _ _ _ C hX hl k => lv_acmp_eq C.1 C.2.1 hd ht (fun n => absurd n hc) (fun _ => k)) (kf (by simpa using hc))
theorem xr_acmp_ne {g : xm_G} {d pc : Nat} {y : xm_M} {ls : List (Option Value)} {st : List Value} {h : xm_H} {Q : Option Value → xm_H → Prop} {rx ry : Option Nat} {off : Int} {tgt : Nat} (hd : decode (xt_code y) pc = .ok (.if_acmp .ne off, 3)) (ht : (pc : Int) + off = (tgt : Int)) (kt : ¬ rx = ry → xm_S g d y (tgt, ls, st) h Q) (kf : rx = ry → xm_S g d y (pc + 3, ls, st) h Q) : xm_S g d y (pc, ls, va_rf ry :: va_rf rx :: st) h Q := by
  by_cases hc : ¬ rx = ry
  · exact xm_pure (fun _ _ _ _ _ _ _ _ _ _ _ _ _ _ _ C hX hl k => lv_acmp_ne C.1 C.2.1 hd ht (fun _ => k) (fun n => absurd hc (by simpa using n))) (kt hc)
  · exact xm_pure (fun _ _ _ _ _ _ _ _ _ _ _ _ _ _ _ C hX hl k => lv_acmp_ne C.1 C.2.1 hd ht (fun n => absurd n hc) (fun _ => k)) (kf (by simpa using hc))
theorem xr_istore {g : xm_G} {d pc : Nat} {y : xm_M} {ls : List (Option Value)} {st : List Value} {h : xm_H} {Q : Option Value → xm_H → Prop} {i : Nat} {x : Int32} (hd : decode (xt_code y) pc = .ok (.istore i, 2)) (hi : (i : Nat) < ls.length) (K : xm_S g d y (pc + 2, ls.set i (some (.int x)), st) h Q) : xm_S g d y (pc, ls, .int x :: st) h Q := by
  obtain ⟨r, h', hq, h1, h2, h3, k⟩ := K
  refine ⟨r, h', hq, h1, h2, by rw [← h3]; simp, fun p e R s m args below meth c H locs cells slots Z la C hR hX hS hl kr => ?_⟩
  exact lv_istore C.1 C.2.1 hd hl.has hi rfl (fun la' hl' => k p e R s m args below meth c H locs cells slots Z la' C hR hX hS (hl.of rfl hi hl') kr)
theorem xr_istore_n {g : xm_G} {d pc : Nat} {y : xm_M} {ls : List (Option Value)} {st : List Value} {h : xm_H} {Q : Option Value → xm_H → Prop} {i : Fin 4} {x : Int32} (hd : decode (xt_code y) pc = .ok (.istore_n i, 1)) (hi : ((i : Nat) : Nat) < ls.length) (K : xm_S g d y (pc + 1, ls.set (i : Nat) (some (.int x)), st) h Q) : xm_S g d y (pc, ls, .int x :: st) h Q := by
  obtain ⟨r, h', hq, h1, h2, h3, k⟩ := K
  refine ⟨r, h', hq, h1, h2, by rw [← h3]; simp, fun p e R s m args below meth c H locs cells slots Z la C hR hX hS hl kr => ?_⟩
  exact lv_istore_n C.1 C.2.1 hd rfl hl.has hi rfl (fun la' hl' => k p e R s m args below meth c H locs cells slots Z la' C hR hX hS (hl.of rfl hi hl') kr)
theorem xr_astore {g : xm_G} {d pc : Nat} {y : xm_M} {ls : List (Option Value)} {st : List Value} {h : xm_H} {Q : Option Value → xm_H → Prop} {i : Nat} {x : Nat} (hd : decode (xt_code y) pc = .ok (.astore i, 2)) (hi : (i : Nat) < ls.length) (K : xm_S g d y (pc + 2, ls.set i (some (.ref x)), st) h Q) : xm_S g d y (pc, ls, .ref x :: st) h Q := by
  obtain ⟨r, h', hq, h1, h2, h3, k⟩ := K
  refine ⟨r, h', hq, h1, h2, by rw [← h3]; simp, fun p e R s m args below meth c H locs cells slots Z la C hR hX hS hl kr => ?_⟩
  exact lv_astore C.1 C.2.1 hd hl.has hi rfl (fun la' hl' => k p e R s m args below meth c H locs cells slots Z la' C hR hX hS (hl.of rfl hi hl') kr)
theorem xr_astore_n {g : xm_G} {d pc : Nat} {y : xm_M} {ls : List (Option Value)} {st : List Value} {h : xm_H} {Q : Option Value → xm_H → Prop} {i : Fin 4} {x : Nat} (hd : decode (xt_code y) pc = .ok (.astore_n i, 1)) (hi : ((i : Nat) : Nat) < ls.length) (K : xm_S g d y (pc + 1, ls.set (i : Nat) (some (.ref x)), st) h Q) : xm_S g d y (pc, ls, .ref x :: st) h Q := by
  obtain ⟨r, h', hq, h1, h2, h3, k⟩ := K
  refine ⟨r, h', hq, h1, h2, by rw [← h3]; simp, fun p e R s m args below meth c H locs cells slots Z la C hR hX hS hl kr => ?_⟩
  exact lv_astore_n C.1 C.2.1 hd rfl hl.has hi rfl (fun la' hl' => k p e R s m args below meth c H locs cells slots Z la' C hR hX hS (hl.of rfl hi hl') kr)
theorem xr_astoreN {g : xm_G} {d pc : Nat} {y : xm_M} {ls : List (Option Value)} {st : List Value} {h : xm_H} {Q : Option Value → xm_H → Prop} {i : Nat} (hd : decode (xt_code y) pc = .ok (.astore i, 2)) (hi : (i : Nat) < ls.length) (K : xm_S g d y (pc + 2, ls.set i (some .null), st) h Q) : xm_S g d y (pc, ls, .null :: st) h Q := by
  obtain ⟨r, h', hq, h1, h2, h3, k⟩ := K
  refine ⟨r, h', hq, h1, h2, by rw [← h3]; simp, fun p e R s m args below meth c H locs cells slots Z la C hR hX hS hl kr => ?_⟩
  exact lv_astoreN C.1 C.2.1 hd hl.has hi rfl (fun la' hl' => k p e R s m args below meth c H locs cells slots Z la' C hR hX hS (hl.of rfl hi hl') kr)
theorem xr_astore_nN {g : xm_G} {d pc : Nat} {y : xm_M} {ls : List (Option Value)} {st : List Value} {h : xm_H} {Q : Option Value → xm_H → Prop} {i : Fin 4} (hd : decode (xt_code y) pc = .ok (.astore_n i, 1)) (hi : ((i : Nat) : Nat) < ls.length) (K : xm_S g d y (pc + 1, ls.set (i : Nat) (some .null), st) h Q) : xm_S g d y (pc, ls, .null :: st) h Q := by
  obtain ⟨r, h', hq, h1, h2, h3, k⟩ := K
  refine ⟨r, h', hq, h1, h2, by rw [← h3]; simp, fun p e R s m args below meth c H locs cells slots Z la C hR hX hS hl kr => ?_⟩
  exact lv_astore_nN C.1 C.2.1 hd rfl hl.has hi rfl (fun la' hl' => k p e R s m args below meth c H locs cells slots Z la' C hR hX hS (hl.of rfl hi hl') kr)
theorem xr_iinc {g : xm_G} {d pc : Nat} {y : xm_M} {ls : List (Option Value)} {st : List Value} {h : xm_H} {Q : Option Value → xm_H → Prop} {i : Nat} {n : Int} {x v : Int32} (hd : decode (xt_code y) pc = .ok (.iinc i n, 3)) (hx : ls[i]? = some (some (.int x))) (hv : x + Int32.ofInt n = v) (K : xm_S g d y (pc + 3, ls.set i (some (.int v)), st) h Q) : xm_S g d y (pc, ls, st) h Q := by
  obtain ⟨r, h', hq, h1, h2, h3, k⟩ := K
  refine ⟨r, h', hq, h1, h2, by rw [← h3]; simp, fun p e R s m args below meth c H locs cells slots Z la C hR hX hS hl kr => ?_⟩
  have hi : i < ls.length := (List.getElem?_eq_some_iff.mp hx).1
  obtain ⟨j, hj⟩ := List.getElem?_of_mem (xm_al_mem (q := (i, Value.int x)).mpr hx)
  exact lv_iinc C.1 C.2.1 hd hl.has hj hv hi rfl (fun la' hl' => k p e R s m args below meth c H locs cells slots Z la' C hR hX hS (hl.of rfl hi hl') kr)
theorem xr_aloadQ {g : xm_G} {d pc : Nat} {y : xm_M} {ls : List (Option Value)} {st : List Value} {h : xm_H} {Q : Option Value → xm_H → Prop} {i : Nat} {r : Option Nat} (hd : decode (xt_code y) pc = .ok (.aload i, 2)) (hv : ls[i]? = some (some (va_rf r))) (K : xm_S g d y (pc + 2, ls, va_rf r :: st) h Q) : xm_S g d y (pc, ls, st) h Q := by
  cases r with
  | none => exact xr_aloadN hd hv K
  | some a => exact xr_aload hd hv K
theorem xr_aload_nQ {g : xm_G} {d pc : Nat} {y : xm_M} {ls : List (Option Value)} {st : List Value} {h : xm_H} {Q : Option Value → xm_H → Prop} {i : Fin 4} {r : Option Nat} (hd : decode (xt_code y) pc = .ok (.aload_n i, 1)) (hv : ls[(i : Nat)]? = some (some (va_rf r))) (K : xm_S g d y (pc + 1, ls, va_rf r :: st) h Q) : xm_S g d y (pc, ls, st) h Q := by
  cases r with
  | none => exact xr_aload_nN hd hv K
  | some a => exact xr_aload_n hd hv K
theorem xr_astoreQ {g : xm_G} {d pc : Nat} {y : xm_M} {ls : List (Option Value)} {st : List Value} {h : xm_H} {Q : Option Value → xm_H → Prop} {i : Nat} {r : Option Nat} (hd : decode (xt_code y) pc = .ok (.astore i, 2)) (hi : i < ls.length) (K : xm_S g d y (pc + 2, ls.set i (some (va_rf r)), st) h Q) : xm_S g d y (pc, ls, va_rf r :: st) h Q := by
  cases r with
  | none => exact xr_astoreN hd hi K
  | some a => exact xr_astore hd hi K
theorem xr_astore_nQ {g : xm_G} {d pc : Nat} {y : xm_M} {ls : List (Option Value)} {st : List Value} {h : xm_H} {Q : Option Value → xm_H → Prop} {i : Fin 4} {r : Option Nat} (hd : decode (xt_code y) pc = .ok (.astore_n i, 1)) (hi : (i : Nat) < ls.length) (K : xm_S g d y (pc + 1, ls.set (i : Nat) (some (va_rf r)), st) h Q) : xm_S g d y (pc, ls, va_rf r :: st) h Q := by
  cases r with
  | none => exact xr_astore_nN hd hi K
  | some a => exact xr_astore_n hd hi K
theorem xm_end {g : xm_G} {d pc : Nat} {y : xm_M} {ls : List (Option Value)} {st : List Value} {h : xm_H} {Q : Option Value → xm_H → Prop} {I : Jvm.ClassFile.Instr} {r : Option Value} (hd : decode (xt_code y) pc = .ok (I, 1)) (hn : ls.length = xt_maxL y) (hr : xm_ret y I st r) (hq : Q r h) : xm_S g d y (pc, ls, st) h Q :=
  ⟨r, h, hq, Nat.le_refl _, Nat.le_refl _, hn, fun p e R s m args below meth c H locs cells slots Z la C hR hX hS hl kr => by
    have k := kr pc la H locs I st hd hr hX hS
    simpa using k⟩
theorem xr_ireturn {g : xm_G} {d pc : Nat} {y : xm_M} {ls : List (Option Value)} {h : xm_H} {Q : Option Value → xm_H → Prop} {v : Int32} {ty : FieldType} (hd : decode (xt_code y) pc = .ok (.ireturn, 1)) (hn : ls.length = xt_maxL y) (ht : xt_ret y = some ty) (hv : narrow ty (.int v) = .int v) (hq : Q (some (.int v)) h) : xm_S g d y (pc, ls, [.int v]) h Q :=
  xm_end hd hn (Or.inl ⟨rfl, v, ty, rfl, rfl, ht, hv⟩) hq
theorem xr_return {g : xm_G} {d pc : Nat} {y : xm_M} {ls : List (Option Value)} {h : xm_H} {Q : Option Value → xm_H → Prop} (hd : decode (xt_code y) pc = .ok (.return_, 1)) (hn : ls.length = xt_maxL y) (ht : xt_ret y = none) (hq : Q none h) : xm_S g d y (pc, ls, []) h Q :=
  xm_end hd hn (Or.inr (Or.inl ⟨rfl, rfl, rfl, ht⟩)) hq
theorem xr_areturn {g : xm_G} {d pc : Nat} {y : xm_M} {ls : List (Option Value)} {h : xm_H} {Q : Option Value → xm_H → Prop} {v : Option Nat} {C : String} (hd : decode (xt_code y) pc = .ok (.areturn, 1)) (hn : ls.length = xt_maxL y) (ht : xt_ret y = some (.object C)) (hq : Q (some (va_rf v)) h) : xm_S g d y (pc, ls, [va_rf v]) h Q :=
  xm_end hd hn (Or.inr (Or.inr ⟨rfl, va_rf v, .object C, rfl, rfl, ht, Or.inl ⟨C, rfl⟩, by cases v with
    | none => exact Or.inl rfl
    | some a => exact Or.inr ⟨a, rfl⟩⟩)) hq
end
section
/-! rows of the heap: fields, arrays, new cells -/
section XHeap
variable {g : xm_G} {d pc : Nat} {y : xm_M} {ls : List (Option Value)} {st : List Value} {h : xm_H} {Q : Option Value → xm_H → Prop}
theorem xr_getf {i ci k a : Nat} {fs : List Value} {v : Value} (hd : decode (xt_code y) pc = .ok (.getfield i, 3)) (hf : xm_okF (xt_own y) i ci k) (ha : h.1 a = some (.inl (ci, fs))) (hv : fs[k]? = some v) (K : xm_S g d y (pc + 3, ls, v :: st) h Q) : xm_S g d y (pc, ls, .ref a :: st) h Q := by
  obtain ⟨Cn, T, N, hc, hk, hlink⟩ := hf
  exact xm_pure (fun _ _ _ _ _ _ _ _ _ _ _ _ _ _ _ C hX hl kk => va_get (ref := (T k).1) C.1 C.2.1 C.2.2.2.2.2.1 (xt_cl_ok hc).1 C.2.2.2.2.1 hX.2.2.2.2.2.1 (hX.obj ha).2.1 0 rfl hc k hk (C.2.2.2.2.2.1 _ hlink) (fun _ h9 => h9) hv hd kk) K
theorem xr_putf {i ci k a : Nat} {fs : List Value} {v : Value} (hd : decode (xt_code y) pc = .ok (.putfield i, 3)) (hf : xm_okF (xt_own y) i ci k) (ha : h.1 a = some (.inl (ci, fs))) (hfin : xt_fin ci k = false) (hn : narrow (xt_ty ci k) v = v) (hfit : fits (xt_ty ci k) v = true) (K : xm_S g d y (pc + 3, ls, st) (xm_up h.1 a (.inl (ci, fs.set k v)), h.2) Q) : xm_S g d y (pc, ls, v :: .ref a :: st) h Q := by
  obtain ⟨r, h', hq, h1, h2, h3, kk⟩ := K
  refine ⟨r, h', hq, h1, h2, h3, fun p e R s m args below meth c H locs cells slots Z la C hR hX hS hl kr => ?_⟩
  obtain ⟨Cn, T, N, hc, hk, hlink⟩ := hf
  obtain ⟨hin, hty, hnm, -⟩ := xt_cl_ok hc
  obtain ⟨hN, hP, r0, hr0, hlen⟩ := hX.obj ha
  have hr1 : r0 = (Cn, T, N) := Option.some.inj (hr0.symm.trans hc)
  subst hr1
  have hfin' : (T k).2.2.2 = false := by
    have e := hfin
    unfold xt_fin at e
    rw [hc] at e
    exact e
  have hts := C.2.2.2.2.2.1
  have hK := hX.2.2.2.2.2.1
  have hap := va_apart (own := xt_nm (xt_own y)) hts hin (xt_ty ci) hty hnm hK hc
  obtain ⟨r', h1', cell, q1, q2, q3, q4⟩ := hP 0 _ rfl
  have hr : r' = (Cn, T, N) := Option.some.inj (h1'.symm.trans hc)
  subst hr
  obtain ⟨hSl, hfc, kC, hkC, hkind⟩ := hK.1 ci _ hc
  obtain ⟨cf, kf, fi, f, hi, hsl⟩ := hSl k hk
  have hlay := hts _ (hin _ (u_in_lay hk))
  unfold u_lay at hlay
  rw [if_neg (by rw [hfin']; decide)] at hlay
  have hst := (u_facts hfc hkC (u_lays hts hin hk) hi).1
  have h6 := u_store hfc hkC hkind hlay hi (hty k hk) hn hfit
  refine W.putK C.1 C.2.1 (f := f) ⟨C.2.2.2.2.1, hts _ hlink, ⟨_, _, _, hi⟩, hst⟩ (by rw [q2]; exact h6) q1 q3 (by rw [hsl]; exact k2_hasslot (q4 k hk)) rfl rfl hd fun H' e1 e2 e3 => ?_
  rw [hsl] at e1 ⊢
  have hat : xm_at g a (.inl (ci, fs.set k v)) H' := ⟨_, hc, by rw [List.length_set]; exact hlen, t_OB.to (V := updV (vp_V fs) k v) ⟨_, e1, q2, q3, t_set q4 hap hk v⟩ (fun j _ => vp_updV_set (by rw [hlen]; exact hk) v j)⟩
  exact kk p e R s m args below meth c H' _ cells slots Z la C hR (hX.set hN hat e2 e3) (hS.put e2 e3 hN) hl kr
theorem xr_putF {i ci k a : Nat} {fs : List Value} {v : Value} (hd : decode (xt_code y) pc = .ok (.putfield i, 3)) (hf : xm_okF (xt_own y) i ci k) (ha : h.1 a = some (.inl (ci, fs))) (hfin : xt_fin ci k = true) (hdec : xt_dec ci k = xt_nm (xt_own y)) (hini : (xt_y y).name = "<init>") (hn : narrow (xt_ty ci k) v = v) (hfit : fits (xt_ty ci k) v = true) (K : xm_S g d y (pc + 3, ls, st) (xm_up h.1 a (.inl (ci, fs.set k v)), h.2) Q) : xm_S g d y (pc, ls, v :: .ref a :: st) h Q := by
  obtain ⟨r, h', hq, h1, h2, h3, kk⟩ := K
  refine ⟨r, h', hq, h1, h2, h3, fun p e R s m args below meth c H locs cells slots Z la C hR hX hS hl kr => ?_⟩
  obtain ⟨Cn, T, N, hc, hk, hlink⟩ := hf
  obtain ⟨hin, hty, hnm, -⟩ := xt_cl_ok hc
  obtain ⟨hN, hP, r0, hr0, hlen⟩ := hX.obj ha
  have hr1 : r0 = (Cn, T, N) := Option.some.inj (hr0.symm.trans hc)
  subst hr1
  have hfin' : (T k).2.2.2 = true := by
    have e := hfin
    unfold xt_fin at e
    rw [hc] at e
    exact e
  have hdecl : (T k).1 = xt_nm (xt_own y) := by
    have e := hdec
    unfold xt_dec at e
    rw [hc] at e
    exact e
  have hts := C.2.2.2.2.2.1
  have hown := C.2.2.2.2.1
  have hK := hX.2.2.2.2.2.1
  have hap := va_apart (own := xt_nm (xt_own y)) hts hin (xt_ty ci) hty hnm hK hc
  obtain ⟨r', h1', cell, q1, q2, q3, q4⟩ := hP 0 _ rfl
  have hr : r' = (Cn, T, N) := Option.some.inj (h1'.symm.trans hc)
  subst hr
  obtain ⟨hSl, hfc, kC, hkC, hkind⟩ := hK.1 ci _ hc
  obtain ⟨cf, kf, fi, f, hi, hsl⟩ := hSl k hk
  have hlay := hts _ (hin _ (u_in_lay hk))
  unfold u_lay at hlay
  rw [if_pos hfin'] at hlay
  have hst := (u_facts hfc hkC (u_lays hts hin hk) hi).1
  have hcf : m.cls = cf := by
    obtain ⟨_, _, c', _, _, _, -, -, hf', -, -, -, hown2, -⟩ := Cond.laysFinal_spec hlay
    have e1 : c' = cf := by have := hi.symm.trans hf'; simp at this; exact this.1.symm
    rw [hdecl] at hown2
    rw [← e1]; exact Option.some.inj (hown.symm.trans hown2)
  have h6 := u_fits hfc hkC hkind (Or.inr hlay) hi (hty k hk) hn hfit
  refine W.putFinK C.1 C.2.1 hown (hts _ hlink) hi hst hcf (C.2.2.2.2.2.2.2 hini) (by rw [q2]; exact h6) q1 q3 (by rw [hsl]; exact k2_hasslot (q4 k hk)) rfl rfl hd fun H' e1 e2 e3 => ?_
  rw [hsl] at e1 ⊢
  have hat : xm_at g a (.inl (ci, fs.set k v)) H' := ⟨_, hc, by rw [List.length_set]; exact hlen, t_OB.to (V := updV (vp_V fs) k v) ⟨_, e1, q2, q3, t_set q4 hap hk v⟩ (fun j _ => vp_updV_set (by rw [hlen]; exact hk) v j)⟩
  exact kk p e R s m args below meth c H' _ cells slots Z la C hR (hX.set hN hat e2 e3) (hS.put e2 e3 hN) hl kr
theorem xm_room1 {a b c d e f : Nat} (h : b + 1 ≤ c) (hr : a + (c - b) ≤ d) : a + 1 ≤ d ∧ a + 1 + (c - (b + 1)) ≤ d ∧ a + 1 + (c - (b + 1)) = a + (c - b) := by omega
theorem xm_roomn {a b c d n : Nat} (h : b + n ≤ c) (hr : a + (c - b) ≤ d) : a + n ≤ d ∧ a + n + (c - (b + n)) ≤ d ∧ a + n + (c - (b + n)) = a + (c - b) := by omega
theorem va_S.made {A : Nat → Prop} {H0 H H1 : Heap} {locs : List Loc} (h : va_S A H0 H locs) (z : H1.size = H.size + 1) (oq : ∀ q : Nat, q < H.size → H1[q]? = H[q]?) : va_S A H0 H1 locs :=
  ⟨Nat.le_trans h.1 (by omega), fun x h1 h2 => (oq x (Nat.lt_of_lt_of_le h1 h.1)).trans (h.2.1 x h1 h2), h.2.2⟩
theorem xr_new {i ci : Nat} {fs : List Value} {N : Nat} (hd : decode (xt_code y) pc = .ok (.new i, 3)) (hn : xm_okN (xt_own y) i ci) (hfs : xt_dflt ci = fs) (hN : fs.length = N) (K : xm_S g d y (pc + 3, ls, .ref h.2.1 :: st) (xm_up h.1 h.2.1 (.inl (ci, fs)), h.2.1 + 1, h.2.2 + N) Q) : xm_S g d y (pc, ls, st) h Q := by
  obtain ⟨r, h', hq, h1, h2, h3, kk⟩ := K
  refine ⟨r, h', hq, Nat.le_trans (Nat.le_succ _) h1, Nat.le_trans (Nat.le_add_right _ _) h2, h3, fun p e R s m args below meth c H locs cells slots Z la C hR hX hS hl kr => ?_⟩
  obtain ⟨Cn, T, N', hc, hlink⟩ := hn
  obtain ⟨hin, hty, hnm, hinst, hini⟩ := xt_cl_ok hc
  have hts := C.2.2.2.2.2.1
  have hKn := hX.2.2.2.2.2.1.1 ci _ hc
  have hd0 : xt_dflt ci = (List.range N').map (fun k => defaultValue (xt_ty ci k)) := by
    unfold xt_dflt
    rw [hc]
  have hN' : N' = N := by rw [← hN, ← hfs, hd0]; simp
  subst hN'
  obtain ⟨r1, r2, r3⟩ := xm_roomn (n := 1) h1 hR.2.2.1
  obtain ⟨r4, r5, r6⟩ := xm_roomn (n := N') h2 hR.2.2.2
  refine W.newcK C.1 C.2.1 C.2.2.2.2.1 (hts _ hlink) (hts _ hinst) (hts _ hini) rfl hd r1 r4 hKn.2.1 hX.1 fun H1 kC hkC e1 z1 o1 => ?_
  have hz : H1.size = H.size + 1 := by rw [z1, hX.1]
  have hat : xm_at g h.2.1 (.inl (ci, fs)) H1 := by
    refine ⟨_, hc, hN, (u_born (xt_ty ci) hts hin hKn hkC e1 hty).to (fun j hj => ?_)⟩
    rw [← hfs, hd0]
    simp [vp_V, hj]
  exact kk p e R s m args below meth c H1 locs (cells + 1) (slots + N') Z la C ⟨hR.1, hR.2.1, r2, r5⟩ (hX.push hat hz (fun q hq => o1 q (by rw [← hX.1]; exact hq))) (hS.made hz (fun q hq => o1 q (by rw [← hX.1]; exact hq))) hl (fun pc' la' H' locs' I st' a1 a2 a3 a4 => W.cs r3 r6 (kr pc' la' H' locs' I st' a1 a2 a3 a4))
theorem xr_anew {i t : Nat} {n : Int32} {N : Nat} (hd : decode (xt_code y) pc = .ok (.anewarray i, 3)) (hn : xm_okA (xt_own y) i t) (h0 : ¬ n < 0) (hN : n.toNatClampNeg = N) (hb : N * 4 ≤ 536870912) (K : xm_S g d y (pc + 3, ls, .ref h.2.1 :: st) (xm_up h.1 h.2.1 (.inr (t, N, fun _ => .null)), h.2.1 + 1, h.2.2 + N) Q) : xm_S g d y (pc, ls, .int n :: st) h Q := by
  obtain ⟨r, h', hq, h1, h2, h3, kk⟩ := K
  refine ⟨r, h', hq, Nat.le_trans (Nat.le_succ _) h1, Nat.le_trans (Nat.le_add_right _ _) h2, h3, fun p e R s m args below meth c H locs cells slots Z la C hR hX hS hl kr => ?_⟩
  obtain ⟨Cn, hc, hlink⟩ := hn
  have hts := C.2.2.2.2.2.1
  obtain ⟨k1, k2, k3⟩ := hX.2.2.2.2.2.2 t _ hc
  subst hN
  obtain ⟨r1, r2, r3⟩ := xm_roomn (n := 1) h1 hR.2.2.1
  obtain ⟨r4, r5, r6⟩ := xm_roomn (n := n.toNatClampNeg) h2 hR.2.2.2
  refine W.anew C.1 C.2.1 C.2.2.2.2.1 (hts _ hlink) (va_AO.use (k3 Cn rfl)) rfl hd rfl h0 hb r1 r4 fun cA kA comp f1 f2 f3 f4 => ?_
  have hcA : cA = xm_A g t := by
    obtain ⟨kA', comp', -, -, -, f5⟩ := k2
    exact Option.some.inj (f1.symm.trans f5)
  subst hcA
  generalize hH1 : H.push ({ cls := xm_A g t, slots := Array.replicate n.toNatClampNeg .null, vm := .none } : Cell) = H1
  have hz : H1.size = H.size + 1 := by rw [← hH1, Array.size_push]
  have o1 : ∀ q : Nat, q < H.size → H1[q]? = H[q]? := fun q hq => by rw [← hH1, Array.getElem?_push, if_neg (Nat.ne_of_lt hq)]
  have hat : xm_at g h.2.1 (.inr (t, n.toNatClampNeg, fun _ => .null)) H1 := by
    show H1[h.2.1]? = _
    rw [← hX.1, ← hH1, Array.getElem?_push_size, ← arrV_new]
  rw [hX.1]
  exact kk p e R s m args below meth c H1 locs (cells + 1) (slots + n.toNatClampNeg) Z la C ⟨hR.1, hR.2.1, r2, r5⟩ (hX.push hat hz o1) (hS.made hz o1) hl (fun pc' la' H' locs' I st' a1 a2 a3 a4 => W.cs r3 r6 (kr pc' la' H' locs' I st' a1 a2 a3 a4))
theorem xr_newarr {atype : Jvm.ClassFile.ArrayType} {t : Nat} {n : Int32} {N : Nat} {dv : Value} (hd : decode (xt_code y) pc = .ok (.newarray atype, 2)) (ht : xt_at[t]? = some (newarray.typeOf atype)) (hw : Cond.arrayClass (newarray.typeOf atype) ∈ xt_ws) (hdv : defaultValue (newarray.typeOf atype) = dv) (h0 : ¬ n < 0) (hN : n.toNatClampNeg = N) (hb : N * componentBytes (newarray.typeOf atype) ≤ 536870912) (K : xm_S g d y (pc + 2, ls, .ref h.2.1 :: st) (xm_up h.1 h.2.1 (.inr (t, N, fun _ => dv)), h.2.1 + 1, h.2.2 + N) Q) : xm_S g d y (pc, ls, .int n :: st) h Q := by
  obtain ⟨r, h', hq, h1, h2, h3, kk⟩ := K
  refine ⟨r, h', hq, Nat.le_trans (Nat.le_succ _) h1, Nat.le_trans (Nat.le_add_right _ _) h2, h3, fun p e R s m args below meth c H locs cells slots Z la C hR hX hS hl kr => ?_⟩
  have hts := C.2.2.2.2.2.1
  obtain ⟨k1, k2, k3⟩ := hX.2.2.2.2.2.2 t _ ht
  subst hN
  subst hdv
  obtain ⟨r1, r2, r3⟩ := xm_roomn (n := 1) h1 hR.2.2.1
  obtain ⟨r4, r5, r6⟩ := xm_roomn (n := n.toNatClampNeg) h2 hR.2.2.2
  refine va_newaK C.1 C.2.1 (hts _ hw) rfl hd rfl h0 rfl hb r1 r4 hX.1 fun H1 cA e1 z1 o1 hAr f1 => ?_
  have hcA : cA = xm_A g t := by
    have f5 : s.vm.findClass ("[" ++ (newarray.typeOf atype).toString) = some (xm_A g t) := by
      cases atype <;> exact k2
    exact Option.some.inj (f1.symm.trans f5)
  subst hcA
  have hz : H1.size = H.size + 1 := by rw [z1, hX.1]
  have o2 : ∀ q : Nat, q < H.size → H1[q]? = H[q]? := fun q hq => o1 q (by rw [← hX.1]; exact hq)
  have hat : xm_at g h.2.1 (.inr (t, n.toNatClampNeg, fun _ => defaultValue (newarray.typeOf atype))) H1 := e1
  exact kk p e R s m args below meth c H1 locs (cells + 1) (slots + n.toNatClampNeg) Z la C ⟨hR.1, hR.2.1, r2, r5⟩ (hX.push hat hz o2) (hS.made hz o2) hl (fun pc' la' H' locs' I st' a1 a2 a3 a4 => W.cs r3 r6 (kr pc' la' H' locs' I st' a1 a2 a3 a4))
theorem xr_alen {a t n : Nat} {f : Nat → Value} {ty : FieldType} (hd : decode (xt_code y) pc = .ok (.arraylength, 1)) (ha : h.1 a = some (.inr (t, n, f))) (ht : xt_at[t]? = some ty) (K : xm_S g d y (pc + 1, ls, .int (nI n) :: st) h Q) : xm_S g d y (pc, ls, .ref a :: st) h Q :=
  xm_pure (fun _ _ _ _ _ _ _ _ _ _ _ _ _ _ _ C hX hl kk => W.alen (n := nI n) C.1 C.2.1 (hX.arr ha).2 ((hX.2.2.2.2.2.2 t _ ht).1 n f) (by rw [arrV_size]; rfl) rfl rfl hd kk) K
theorem xr_slen (hd : decode (xt_code y) pc = .ok (.arraylength, 1)) (K : xm_S g d y (pc + 1, ls, .int (nI (xm_n g)) :: st) h Q) : xm_S g d y (pc, ls, .ref (xm_b g) :: st) h Q :=
  xm_pure (fun _ _ _ _ _ _ _ _ _ _ _ _ _ _ _ C hX hl kk => by
    obtain ⟨scr, e1, e2, e3, e4, e5⟩ := hX.2.2.2.1
    exact W.alen (n := nI (xm_n g)) C.1 C.2.1 e1 e2 (by rw [e4]; rfl) rfl rfl hd kk) K
theorem xr_sld {i : Int32} (hd : decode (xt_code y) pc = .ok (.iaload, 1)) (hi : vp_in i (xm_n g)) (K : xm_S g d y (pc + 1, ls, .int (xm_x g i.toNatClampNeg) :: st) h Q) : xm_S g d y (pc, ls, .int i :: .ref (xm_b g) :: st) h Q :=
  xm_pure (fun _ _ _ _ _ _ _ _ _ _ _ _ _ _ _ C hX hl kk => by
    obtain ⟨scr, e1, e2, e3, e4, e5⟩ := hX.2.2.2.1
    exact W.iald (v := .int (xm_x g i.toNatClampNeg)) C.1 C.2.1 e1 e2 e3 (by rw [e4]; exact hi) (e5 _ (Nat.not_le.mp fun q => hi (Or.inr q))) rfl rfl hd kk) K
theorem xr_iald {a t n : Nat} {f : Nat → Value} {i : Int32} {v : Value} (hd : decode (xt_code y) pc = .ok (.iaload, 1)) (ha : h.1 a = some (.inr (t, n, f))) (ht : xt_at[t]? = some .int) (hi : vp_in i n) (hv : f i.toNatClampNeg = v) (K : xm_S g d y (pc + 1, ls, v :: st) h Q) : xm_S g d y (pc, ls, .int i :: .ref a :: st) h Q :=
  xm_pure (fun _ _ _ _ _ _ _ _ _ _ _ _ _ _ _ C hX hl kk => W.iald (v := v) C.1 C.2.1 (hX.arr ha).2 ((hX.2.2.2.2.2.2 t _ ht).1 n f) (fun q => by cases q) (by rw [arrV_size]; exact hi) (by rw [arrV_read _ _ (Nat.not_le.mp fun q => hi (Or.inr q)), hv]) rfl rfl hd kk) K
theorem xr_zald {a t n : Nat} {f : Nat → Value} {i : Int32} {v : Value} (hd : decode (xt_code y) pc = .ok (.baload, 1)) (ha : h.1 a = some (.inr (t, n, f))) (ht : xt_at[t]? = some .boolean) (hi : vp_in i n) (hv : f i.toNatClampNeg = v) (K : xm_S g d y (pc + 1, ls, v :: st) h Q) : xm_S g d y (pc, ls, .int i :: .ref a :: st) h Q :=
  xm_pure (fun _ _ _ _ _ _ _ _ _ _ _ _ _ _ _ C hX hl kk => W.zald (v := v) C.1 C.2.1 (hX.arr ha).2 ((hX.2.2.2.2.2.2 t _ ht).1 n f) (fun q => by cases q) (by rw [arrV_size]; exact hi) (by rw [arrV_read _ _ (Nat.not_le.mp fun q => hi (Or.inr q)), hv]) rfl rfl hd kk) K
theorem xr_aald {a t n : Nat} {f : Nat → Value} {i : Int32} {v : Value} {ty : FieldType} (hd : decode (xt_code y) pc = .ok (.aaload, 1)) (ha : h.1 a = some (.inr (t, n, f))) (ht : xt_at[t]? = some ty) (hr : ty.isReference = true) (hi : vp_in i n) (hv : f i.toNatClampNeg = v) (K : xm_S g d y (pc + 1, ls, v :: st) h Q) : xm_S g d y (pc, ls, .int i :: .ref a :: st) h Q :=
  xm_pure (fun _ _ _ _ _ _ _ _ _ _ _ _ _ _ _ C hX hl kk => W.aald (v := v) (ty := ty) C.1 C.2.1 (hX.arr ha).2 ((hX.2.2.2.2.2.2 t _ ht).1 n f) hr (fun q => by cases q) (by rw [arrV_size]; exact hi) (by rw [arrV_read _ _ (Nat.not_le.mp fun q => hi (Or.inr q)), hv]) rfl rfl hd kk) K
theorem xr_iast {a t n : Nat} {f : Nat → Value} {i x : Int32} (hd : decode (xt_code y) pc = .ok (.iastore, 1)) (ha : h.1 a = some (.inr (t, n, f))) (ht : xt_at[t]? = some .int) (hi : vp_in i n) (K : xm_S g d y (pc + 1, ls, st) (xm_up h.1 a (.inr (t, n, updV f i.toNatClampNeg (.int x))), h.2) Q) : xm_S g d y (pc, ls, .int x :: .int i :: .ref a :: st) h Q := by
  obtain ⟨r, h', hq, h1, h2, h3, kk⟩ := K
  refine ⟨r, h', hq, h1, h2, h3, fun p e R s m args below meth c H locs cells slots Z la C hR hX hS hl kr => ?_⟩
  obtain ⟨hN, hc⟩ := hX.arr ha
  refine W.iast C.1 C.2.1 hc ((hX.2.2.2.2.2.2 t _ ht).1 n f) (fun q => by cases q) (by rw [arrV_size]; exact hi) rfl rfl hd fun H' e1 e2 e3 => ?_
  have hat : xm_at g a (.inr (t, n, updV f i.toNatClampNeg (.int x))) H' := by rw [arrV_store] at e1; exact e1
  exact kk p e R s m args below meth c H' _ cells slots Z la C hR (hX.set hN hat e2 e3) (hS.put e2 e3 hN) hl kr
theorem xr_zast {a t n : Nat} {f : Nat → Value} {i x : Int32} (hd : decode (xt_code y) pc = .ok (.bastore, 1)) (ha : h.1 a = some (.inr (t, n, f))) (ht : xt_at[t]? = some .boolean) (hi : vp_in i n) (hx : narrow .boolean (.int x) = .int x) (K : xm_S g d y (pc + 1, ls, st) (xm_up h.1 a (.inr (t, n, updV f i.toNatClampNeg (.int x))), h.2) Q) : xm_S g d y (pc, ls, .int x :: .int i :: .ref a :: st) h Q := by
  obtain ⟨r, h', hq, h1, h2, h3, kk⟩ := K
  refine ⟨r, h', hq, h1, h2, h3, fun p e R s m args below meth c H locs cells slots Z la C hR hX hS hl kr => ?_⟩
  obtain ⟨hN, hc⟩ := hX.arr ha
  refine W.zast C.1 C.2.1 hc ((hX.2.2.2.2.2.2 t _ ht).1 n f) (fun q => by cases q) (by rw [arrV_size]; exact hi) rfl rfl hd fun H' e1 e2 e3 => ?_
  have hat : xm_at g a (.inr (t, n, updV f i.toNatClampNeg (.int x))) H' := by rw [hx, arrV_store] at e1; exact e1
  exact kk p e R s m args below meth c H' _ cells slots Z la C hR (hX.set hN hat e2 e3) (hS.put e2 e3 hN) hl kr
/-- a reference to an object of the array's own class is stored -/
theorem xr_aast {a t n v ci N : Nat} {fs : List Value} {f : Nat → Value} {i : Int32} {Cn : String} {T : u_T} (hd : decode (xt_code y) pc = .ok (.aastore, 1)) (ha : h.1 a = some (.inr (t, n, f))) (ht : xt_at[t]? = some (.object Cn)) (hc : xt_cl[ci]? = some (Cn, T, N)) (hv : h.1 v = some (.inl (ci, fs))) (hi : vp_in i n) (K : xm_S g d y (pc + 1, ls, st) (xm_up h.1 a (.inr (t, n, updV f i.toNatClampNeg (.ref v))), h.2) Q) : xm_S g d y (pc, ls, .ref v :: .int i :: .ref a :: st) h Q := by
  obtain ⟨r, h', hq, h1, h2, h3, kk⟩ := K
  refine ⟨r, h', hq, h1, h2, h3, fun p e R s m args below meth c H locs cells slots Z la C hR hX hS hl kr => ?_⟩
  obtain ⟨hN, hcell⟩ := hX.arr ha
  have hlt : i.toNatClampNeg < n := Nat.not_le.mp fun q => hi (Or.inr q)
  have hi0 : ¬ i < 0 := fun q => hi (Or.inl q)
  obtain ⟨r', hr', cellV, g1, g2, g3, -⟩ := (hX.obj hv).2.1 0 _ rfl
  have hcls := (hX.2.2.2.2.2.1.1 ci _ hc).2
  obtain ⟨kA, comp, k1, k2, k3, -⟩ := (hX.2.2.2.2.2.2 t _ ht).2.1
  have hcomp : comp = (xm_D g).1 ci := Option.some.inj (k3.symm.trans hcls.1)
  subst hcomp
  obtain ⟨kC, hkC, -⟩ := hcls.2
  refine W.aast C.1 C.2.1 hcell (fun q h => by cases h) (fun h => by cases h) k1 k2 rfl hkC ⟨hi0, by rw [arrV_size]; exact hlt⟩ g1 (fun q h => by rw [g3] at h; cases h) (by rw [g2]; exact hkC) (by rw [g2]; exact va_assign hcls) rfl rfl hd fun H' e1 e2 e3 => ?_
  have hat : xm_at g a (.inr (t, n, updV f i.toNatClampNeg (.ref v))) H' := by rw [arrV_store] at e1; exact e1
  exact kk p e R s m args below meth c H' _ cells slots Z la C hR (hX.set hN hat e2 e3) (hS.put e2 e3 hN) hl kr
end XHeap
end
section
/-! calls: a judgement of the callee is a contract, and a row of the caller -/
def xm_ws (z : xm_M) : List Cond := .code (xt_y z) (xt_code z) (xt_maxL z) (xt_ret z) :: xt_ws
def xm_Qc (g : xm_G) (r : Option Value) (h' : xm_H) : Array Value → State → Outcome → State → Prop := fun _ st o t => (o = .returned r ∧ xm_R g h' t t.heap) ∧ va_F (fun q => xm_N g ≤ q) st t
def xm_entry (z : xm_M) (as : List Value) : xm_F := (0, as.map some ++ List.replicate (xt_maxL z - as.length) none, [])
theorem xm_sl {as : List Value} (h : ∀ v ∈ as, v.category = 1) : lg_sl as = as.map Slot.val := by
  induction as with
  | nil => rfl
  | cons v vs ih =>
    have h1 := h v List.mem_cons_self
    have h2 := ih (fun w hw => h w (List.mem_cons_of_mem _ hw))
    unfold lg_sl at h2 ⊢
    rw [List.flatMap_cons, h2, if_neg (by omega)]
    rfl
theorem xm_L.entry {z : xm_M} {as : List Value} (h : ∀ v ∈ as, v.category = 1) (hn : as.length ≤ xt_maxL z) : xm_L ((lg_sl as ++ List.replicate (xt_maxL z - (lg_sl as).length) Slot.unset).toArray) (xm_entry z as).2.1 := by
  have hs := xm_sl h
  have hl := lv_entry as (n := xt_maxL z) (by rw [hs, List.length_map]; exact hn)
  refine ⟨?_, hl.2.1, fun k v hk => ?_⟩
  · rw [hl.1]
    simp [xm_entry]
    omega
  · have hk2 : (as.map some ++ List.replicate (xt_maxL z - as.length) none)[k]? = some (some v) := hk
    by_cases hka : k < as.length
    · rw [List.getElem?_append_left (by rw [List.length_map]; exact hka), List.getElem?_map] at hk2
      cases hv : as[k]? with
      | none => rw [hv] at hk2; cases hk2
      | some w =>
        rw [hv] at hk2
        cases hk2
        refine ⟨?_, h v (List.mem_of_getElem? hv)⟩
        rw [hs, List.getElem?_toArray, List.getElem?_append_left (by rw [List.length_map]; exact hka), List.getElem?_map, hv]
        rfl
    · rw [List.getElem?_append_right (by rw [List.length_map]; omega)] at hk2
      have := List.eq_of_mem_replicate (List.mem_of_getElem? hk2)
      cases this
theorem xm_met {g : xm_G} {d : Nat} {z : xm_M} {as : List Value} {h h' : xm_H} {r : Option Value} (hz : xm_okM z) (hc : ∀ v ∈ as, v.category = 1) (hn : as.length ≤ xt_maxL z)
    (k : ∀ (p : Program) (e : Env) (R : Room) (s : State) (m : MethodId) (args : Array Value) (below : List Frame) (meth : Method) (c : Code) (H : Heap) (locs : List Loc) (cells slots : Nat) (Z : State → Prop) (la : Array Slot),
    xm_C p s m args meth c z → (d ≤ R.frames ∧ d * xt_LM ≤ R.locals ∧ cells + (h'.2.1 - h.2.1) ≤ R.cells ∧ slots + (h'.2.2 - h.2.2) ≤ R.slots) →
    xm_R g h s H → va_S (fun q => xm_N g ≤ q) s.heap H locs → xm_L la (xm_entry z as).2.1 →
    (∀ (pc' : Nat) (la' : Array Slot) (H' : Heap) (locs' : List Loc) (I : Jvm.ClassFile.Instr) (st' : List Value), decode (xt_code z) pc' = .ok (I, 1) → xm_ret z I st' r → xm_R g h' s H' → va_S (fun q => xm_N g ≤ q) s.heap H' locs' →
      W p (xm_l g) e R s m args below meth c H' locs' (cells + (h'.2.1 - h.2.1)) (slots + (h'.2.2 - h.2.2)) Z (F0 m pc' la' st')) →
    W p (xm_l g) e R s m args below meth c H locs cells slots Z (F0 m (xm_entry z as).1 la (xm_entry z as).2.2)) :
    Met (xm_l g) (xt_y z) (xm_ws z) { frames := d, cells := h'.2.1 - h.2.1, slots := h'.2.2 - h.2.2, locals := d * xt_LM } (va_Pc as fun U => xm_R g h U U.heap) (xm_Qc g r h') (h'.2.1 - h.2.1) (h'.2.2 - h.2.2) (fun q => xm_N g ≤ q) := by
  refine Met.ofW (cc := xt_code z) (maxL := xt_maxL z) (ret := xt_ret z) hz.1 rfl ?_
  intro p e s m args below meth c s₁ B hml hv
  obtain ⟨rfl, hX⟩ := hv
  have hts := atoms_spec (ws := xm_ws z) B.pre
  have hown : s.vm.findClass (xt_y z).cls = some m.cls := findClass_of_methodNamed B.named
  have hnm := (name_of_methodNamed B.named B.method).1
  have hlocks := B.notSynchronized
  rw [hz.2.1] at hown
  have C : xm_C p s m as.toArray meth c z := ⟨B.exec, B.bytes, B.returns, hml, hown, fun w hw => hts w (List.mem_cons_of_mem _ hw), hlocks, fun h9 => hnm.trans h9⟩
  rw [lg_entry_eq]
  refine k p e _ s m _ below meth c s.heap [] 0 0 _ _ C ⟨Nat.le_refl _, Nat.le_refl _, Nat.le_of_eq (Nat.zero_add _), Nat.le_of_eq (Nat.zero_add _)⟩ hX va_S.rf (xm_L.entry hc hn) ?_
  intro pc' la' H' locs' I st' hd hret hX' hS'
  refine W.cs (Nat.zero_add _) (Nat.zero_add _) ?_
  have hq : ∀ t : State, t.heap = H' → s.WarmedH t.vm → xm_Qc g r h' as.toArray s (.returned r) t := fun t ht hW => ⟨⟨rfl, by rw [ht]; exact hX'.moved hW.alike⟩, hS'.F ht⟩
  rcases hret with ⟨rfl, v, ty, rfl, rfl, hty, hnv⟩ | ⟨rfl, rfl, rfl, hty⟩ | ⟨rfl, v, ty, rfl, rfl, hty, hrt, hv⟩
  · exact W.zret (ty := ty) C.1 C.2.1 (C.2.2.1.trans hty) hnv hq hS'.2.2 hd hlocks
  · exact W.vret C.1 C.2.1 (C.2.2.1.trans hty) hq hS'.2.2 hd hlocks
  · exact W.aret C.1 C.2.1 (C.2.2.1.trans hty) hrt hv hq hS'.2.2 hd hlocks
theorem xm_blind {g : xm_G} {h : xm_H} {as : List Value} : FrameBlind (va_Pc as fun U => xm_R g h U U.heap) := fun a U f mk q => ⟨q.1, xm_R.moved (u := U) (U := U.calling f mk a) (Vm.Alike.refl U.vm) q.2⟩
theorem xm_cont {g : xm_G} {p : Program} {e : Env} {R : Room} {s : State} {m : MethodId} {args : Array Value} {below : List Frame} {meth : Method} {c : Code} {H : Heap} {locs : List Loc} {cells slots mc ms : Nat} {Z : State → Prop} {pc : Nat} {la : Array Slot} {st0 rest : List Value} {r : Option Value} {h' : xm_H} {a : Array Value} {H0 : Heap}
    (hr : va_Run p (xm_l g) e R s m args below meth c H locs cells slots mc ms (F0 m pc la st0) rest (xm_Qc g r h' a) (fun q => xm_N g ≤ q)) (hS : va_S (fun q => xm_N g ≤ q) H0 H locs)
    (kk : ∀ (H1 : Heap) (locs1 : List Loc), xm_R g h' s H1 → va_S (fun q => xm_N g ≤ q) H0 H1 locs1 → W p (xm_l g) e R s m args below meth c H1 locs1 (cells + mc) (slots + ms) Z (F0 m (pc + 3) la (r.toList ++ rest))) : W p (xm_l g) e R s m args below meth c H locs cells slots Z (F0 m pc la st0) := by
  intro T hT X
  obtain ⟨v, st₀, t, T', L, h0, X', hL, e1, e2, ⟨⟨hv, hb⟩, hz, hk⟩, st⟩ := hr T hT X
  cases hv
  rw [h0] at hz hk
  have hal : s.vm.Alike t.vm := by rw [← e2]; exact X'.warmed.alike
  obtain ⟨t2, a1, b1⟩ := kk T'.heap (locs ++ L) (by rw [e1]; exact hb.moved hal.symm)
    ⟨Nat.le_trans hS.1 (by rw [e1]; exact hz), fun q h1 h2 => by rw [e1, hk q (Nat.lt_of_lt_of_le h1 hS.1) h2]; exact hS.2.1 q h1 h2, fun q hq => by
      rcases List.mem_append.mp hq with h | h
      · exact hS.2.2 q h
      · exact hL q h⟩ T' rfl X'
  exact ⟨t2, st t2 a1, b1⟩
theorem xm_good (z : xm_M) (hz : xm_okM z) : GoodIn xt_ws (xm_ws z) := fun w hw => by
  rcases List.mem_cons.mp hw with rfl | h
  · exact ⟨hz.2.2.1, xt_good _ hz.2.2.1⟩
  · exact ⟨h, xt_good _ h⟩
theorem xm_roomc {a b c e R : Nat} (h1 : b ≤ c) (h2 : c ≤ e) (hr : a + (e - b) ≤ R) : a + (c - b) ≤ R ∧ a + (c - b) + (e - c) ≤ R ∧ a + (c - b) + (e - c) = a + (e - b) := by omega
theorem xm_rooml {d n k R : Nat} (hk : n + 19 ≤ k) (hr : (d + 1) * k ≤ R) : 8 + (n + 11) + d * k ≤ R := by
  rw [Nat.succ_mul] at hr
  omega
section XCall
variable {g : xm_G} {d pc : Nat} {y : xm_M} {ls : List (Option Value)} {st : List Value} {h : xm_H} {Q Qz : Option Value → xm_H → Prop} {z : xm_M} {i : Nat} {as rest : List Value}
theorem xr_callV {b : Nat} {fs : List Value} (hd : decode (xt_code y) pc = .ok (.invokevirtual i, 3)) (hm : xm_okV (xt_own y) i z) (hst : st = as.reverse ++ .ref b :: rest) (hb : h.1 b = some (.inl (xt_own z, fs))) (hn : as.length = xt_np z) (hc : ∀ v ∈ as, v.category = 1) (hrest : (rest.map fun v => v.category).sum ≤ 8)
    (Cz : xm_S g d z (xm_entry z (.ref b :: as)) h Qz) (K : ∀ (r : Option Value) (h' : xm_H), Qz r h' → xm_S g (d + 1) y (pc + 3, ls, r.toList ++ rest) h' Q) : xm_S g (d + 1) y (pc, ls, st) h Q := by
  obtain ⟨r, h', hq, h1, h2, -, k⟩ := Cz
  obtain ⟨r2, h2', hq2, g1, g2, g3, k2⟩ := K r h' hq
  obtain ⟨hz, hlink, hinst, hsel, hmx, T, N, hcl⟩ := hm
  refine ⟨r2, h2', hq2, Nat.le_trans h1 g1, Nat.le_trans h2 g2, g3, fun p e R s m args below meth c H locs cells slots Z la C hR hX hS hl kr => ?_⟩
  have hts := C.2.2.2.2.2.1
  have hc2 : ∀ v ∈ Value.ref b :: as, v.category = 1 := fun v hv => by
    rcases List.mem_cons.mp hv with rfl | h
    · rfl
    · exact hc v h
  have hM := xm_met (g := g) hz hc2 (by rw [List.length_cons, hn]; exact hmx) k
  obtain ⟨r1, r3, r4⟩ := xm_roomc h1 g1 hR.2.2.1
  obtain ⟨r5, r6, r7⟩ := xm_roomc h2 g2 hR.2.2.2
  have cw : CallW R s args (xt_nm (xt_own y)) (xt_y z).cls i (xt_y z) (xt_code z) (xt_maxL z) (xt_ret z) (xm_ws z) { frames := d, cells := h'.2.1 - h.2.1, slots := h'.2.2 - h.2.2, locals := d * xt_LM } (h'.2.1 - h.2.1) (h'.2.2 - h.2.2) (xt_np z) :=
    ⟨callB_of (xt_np z) hts (xm_good z hz) rfl rfl rfl (hts _ hz.2.2.2.1) (hts _ hlink) hz.2.2.2.2.1 ⟨hR.1, xm_rooml hz.2.2.2.2.2 hR.2.1⟩, hts _ hinst, hts _ hsel⟩
  have hrv : ∃ cellB : Cell, H[b]? = some cellB ∧ cellB.vm.isStatics = false ∧ s.vm.findClass (xt_y z).cls = some cellB.cls := by
    rw [hz.2.1]
    exact va_recv (q := (xt_nm (xt_own z), T, N)) hX.2.2.2.2.2.1 (hX.obj hb).2.1 hcl (q0 := 0) rfl
  refine xm_cont (r := r) (va_runV (As := as) (rest := rest) (b := b) (nL := xt_maxL y) ⟨C.1, C.2.1, C.2.2.2.1, C.2.2.2.2.1, hts⟩ hM cw ⟨xm_blind, hrv, fun U hU hW => ⟨rfl, by show xm_R g h U U.heap; rw [hU]; exact hX.moved hW.alike⟩⟩ rfl hn (by rw [← g3]; exact hl.1) hst (lv_room hrest) hd ⟨r1, r5⟩) hS (fun H1 locs1 hX1 hS1 => ?_)
  exact k2 p e R s m args below meth c H1 locs1 _ _ Z la C ⟨hR.1, hR.2.1, r3, r6⟩ hX1 hS1 hl (fun pc' la' H' locs' I st' a1 a2 a3 a4 => W.cs r4 r7 (kr pc' la' H' locs' I st' a1 a2 a3 a4))
theorem xr_callS (hd : decode (xt_code y) pc = .ok (.invokestatic i, 3)) (hm : xm_okS (xt_own y) i z) (hst : st = as.reverse ++ rest) (hn : as.length = xt_np z) (hc : ∀ v ∈ as, v.category = 1) (hrest : (rest.map fun v => v.category).sum ≤ 8)
    (Cz : xm_S g d z (xm_entry z as) h Qz) (K : ∀ (r : Option Value) (h' : xm_H), Qz r h' → xm_S g (d + 1) y (pc + 3, ls, r.toList ++ rest) h' Q) : xm_S g (d + 1) y (pc, ls, st) h Q := by
  obtain ⟨r, h', hq, h1, h2, -, k⟩ := Cz
  obtain ⟨r2, h2', hq2, g1, g2, g3, k2⟩ := K r h' hq
  obtain ⟨hz, hlink, hstc, hmx⟩ := hm
  refine ⟨r2, h2', hq2, Nat.le_trans h1 g1, Nat.le_trans h2 g2, g3, fun p e R s m args below meth c H locs cells slots Z la C hR hX hS hl kr => ?_⟩
  have hts := C.2.2.2.2.2.1
  have hM := xm_met (g := g) hz hc (by rw [hn]; exact hmx) k
  obtain ⟨r1, r3, r4⟩ := xm_roomc h1 g1 hR.2.2.1
  obtain ⟨r5, r6, r7⟩ := xm_roomc h2 g2 hR.2.2.2
  have cw : CallB R s args (xt_nm (xt_own y)) i (xt_y z) (xt_code z) (xt_maxL z) (xt_ret z) (xm_ws z) { frames := d, cells := h'.2.1 - h.2.1, slots := h'.2.2 - h.2.2, locals := d * xt_LM } (h'.2.1 - h.2.1) (h'.2.2 - h.2.2) (xt_np z) ∧ (Cond.static (xt_y z)).before args s = true :=
    ⟨callB_of (xt_np z) hts (xm_good z hz) rfl rfl rfl (hts _ hz.2.2.2.1) (hts _ hlink) hz.2.2.2.2.1 ⟨hR.1, xm_rooml hz.2.2.2.2.2 hR.2.1⟩, hts _ hstc⟩
  refine xm_cont (r := r) (va_runS (As := as) (rest := rest) (nL := xt_maxL y) ⟨C.1, C.2.1, C.2.2.2.1, C.2.2.2.2.1, hts⟩ hM cw ⟨xm_blind, fun U hU hW => ⟨rfl, by show xm_R g h U U.heap; rw [hU]; exact hX.moved hW.alike⟩⟩ rfl hn (by rw [← g3]; exact hl.1) hst (lv_room hrest) hd ⟨r1, r5⟩) hS (fun H1 locs1 hX1 hS1 => ?_)
  exact k2 p e R s m args below meth c H1 locs1 _ _ Z la C ⟨hR.1, hR.2.1, r3, r6⟩ hX1 hS1 hl (fun pc' la' H' locs' I st' a1 a2 a3 a4 => W.cs r4 r7 (kr pc' la' H' locs' I st' a1 a2 a3 a4))
theorem xr_callI {b : Nat} (hd : decode (xt_code y) pc = .ok (.invokespecial i, 3)) (hm : xm_okI (xt_own y) i z) (hst : st = as.reverse ++ .ref b :: rest) (hn : as.length = xt_np z) (hc : ∀ v ∈ as, v.category = 1) (hrest : (rest.map fun v => v.category).sum ≤ 8)
    (Cz : xm_S g d z (xm_entry z (.ref b :: as)) h Qz) (K : ∀ (r : Option Value) (h' : xm_H), Qz r h' → xm_S g (d + 1) y (pc + 3, ls, r.toList ++ rest) h' Q) : xm_S g (d + 1) y (pc, ls, st) h Q := by
  obtain ⟨r, h', hq, h1, h2, -, k⟩ := Cz
  obtain ⟨r2, h2', hq2, g1, g2, g3, k2⟩ := K r h' hq
  obtain ⟨hz, hlink, hinst, hname, hret, hmx⟩ := hm
  refine ⟨r2, h2', hq2, Nat.le_trans h1 g1, Nat.le_trans h2 g2, g3, fun p e R s m args below meth c H locs cells slots Z la C hR hX hS hl kr => ?_⟩
  have hts := C.2.2.2.2.2.1
  have hc2 : ∀ v ∈ Value.ref b :: as, v.category = 1 := fun v hv => by
    rcases List.mem_cons.mp hv with rfl | h
    · rfl
    · exact hc v h
  have hM := xm_met (g := g) hz hc2 (by rw [List.length_cons, hn]; exact hmx) k
  obtain ⟨r1, r3, r4⟩ := xm_roomc h1 g1 hR.2.2.1
  obtain ⟨r5, r6, r7⟩ := xm_roomc h2 g2 hR.2.2.2
  have cw : CallB R s args (xt_nm (xt_own y)) i (xt_y z) (xt_code z) (xt_maxL z) none (xm_ws z) { frames := d, cells := h'.2.1 - h.2.1, slots := h'.2.2 - h.2.2, locals := d * xt_LM } (h'.2.1 - h.2.1) (h'.2.2 - h.2.2) (xt_np z) ∧ (xt_y z).name = "<init>" ∧ (Cond.instanceMethod (xt_y z)).before args s = true :=
    ⟨callB_of (xt_np z) hts (xm_good z hz) (by unfold xm_ws; rw [hret]) rfl rfl (hts _ hz.2.2.2.1) (hts _ hlink) hz.2.2.2.2.1 ⟨hR.1, xm_rooml hz.2.2.2.2.2 hR.2.1⟩, hname, hts _ hinst⟩
  refine xm_cont (r := r) (va_runI (As := as) (rest := rest) (b := b) (nL := xt_maxL y) ⟨C.1, C.2.1, C.2.2.2.1, C.2.2.2.2.1, hts⟩ hM cw ⟨xm_blind, fun U hU hW => ⟨rfl, by show xm_R g h U U.heap; rw [hU]; exact hX.moved hW.alike⟩⟩ rfl hn (by rw [← g3]; exact hl.1) hst (lv_room hrest) hd ⟨r1, r5⟩) hS (fun H1 locs1 hX1 hS1 => ?_)
  exact k2 p e R s m args below meth c H1 locs1 _ _ Z la C ⟨hR.1, hR.2.1, r3, r6⟩ hX1 hS1 hl (fun pc' la' H' locs' I st' a1 a2 a3 a4 => W.cs r4 r7 (kr pc' la' H' locs' I st' a1 a2 a3 a4))
/-- Object's constructor -/
theorem xr_objInit {a : Nat} (hd : decode (xt_code y) pc = .ok (.invokespecial i, 3)) (hm : xm_okO (xt_own y) i) (hrest : (rest.map fun v => v.category).sum ≤ 8) (K : xm_S g (d + 1) y (pc + 3, ls, rest) h Q) : xm_S g (d + 1) y (pc, ls, .ref a :: rest) h Q := by
  obtain ⟨r2, h2', hq2, g1, g2, g3, k2⟩ := K
  obtain ⟨w1, w2, w3⟩ := hm
  refine ⟨r2, h2', hq2, g1, g2, g3, fun p e R s m args below meth c H locs cells slots Z la C hR hX hS hl kr => ?_⟩
  have hts := C.2.2.2.2.2.1
  refine W.objInit C.1 C.2.1 C.2.2.2.2.1 (hts _ w1) (hts _ w2) (hts _ w3) rfl (by rw [C.2.2.2.1, ← g3]; exact hl.1) rfl hd (Nat.le_trans (Nat.le_add_left 1 d) hR.1) ?_ ?_
  · have h0 := hR.2.1
    rw [Nat.succ_mul] at h0
    have h1 : 20 ≤ xt_LM := by decide
    show 2 * 0 + _ + 12 ≤ _
    omega
  · exact k2 p e R s m args below meth c H locs cells slots Z la C hR hX hS hl kr
end XCall
end
section
/-! calls by the number of their arguments and the kind of their answer -/
def xq_i (P : Int32 → xm_H → Prop) : Option Value → xm_H → Prop := fun r h' => ∃ v : Int32, r = some (.int v) ∧ P v h'
def xq_v (P : xm_H → Prop) : Option Value → xm_H → Prop := fun r h' => r = none ∧ P h'
def xq_r (P : Option Nat → xm_H → Prop) : Option Value → xm_H → Prop := fun r h' => ∃ v : Option Nat, r = some (va_rf v) ∧ P v h'
section XCalls
variable {g : xm_G} {d d' pc : Nat} {y z : xm_M} {ls : List (Option Value)} {h : xm_H} {Q : Option Value → xm_H → Prop} {i : Nat} {rest : List Value}
theorem xr_V0i {b : Nat} {fs : List Value} {P : Int32 → xm_H → Prop} (hd : decode (xt_code y) pc = .ok (.invokevirtual i, 3)) (hm : xm_okV (xt_own y) i z) (hb : h.1 b = some (.inl (xt_own z, fs))) (hn : xt_np z = 0) (hr : (rest.map fun v => v.category).sum ≤ 8) (hdd : d' < d)
    (Cz : xm_S g d' z (xm_entry z [.ref b]) h (xq_i P)) (K : ∀ (v : Int32) (h' : xm_H), P v h' → xm_S g d y (pc + 3, ls, .int v :: rest) h' Q) : xm_S g d y (pc, ls, .ref b :: rest) h Q := by
  cases d with
  | zero => exact absurd hdd (Nat.not_lt_zero _)
  | succ d => exact xr_callV (as := []) (rest := rest) hd hm rfl hb hn.symm (fun v hv => by simp at hv) hr (Cz.up (Nat.le_of_lt_succ hdd)) (fun r h' e => by obtain ⟨v, rfl, e⟩ := e; exact K v h' e)
theorem xr_V0v {b : Nat} {fs : List Value} {P : xm_H → Prop} (hd : decode (xt_code y) pc = .ok (.invokevirtual i, 3)) (hm : xm_okV (xt_own y) i z) (hb : h.1 b = some (.inl (xt_own z, fs))) (hn : xt_np z = 0) (hr : (rest.map fun v => v.category).sum ≤ 8) (hdd : d' < d)
    (Cz : xm_S g d' z (xm_entry z [.ref b]) h (xq_v P)) (K : ∀ h' : xm_H, P h' → xm_S g d y (pc + 3, ls, rest) h' Q) : xm_S g d y (pc, ls, .ref b :: rest) h Q := by
  cases d with
  | zero => exact absurd hdd (Nat.not_lt_zero _)
  | succ d => exact xr_callV (as := []) (rest := rest) hd hm rfl hb hn.symm (fun v hv => by simp at hv) hr (Cz.up (Nat.le_of_lt_succ hdd)) (fun r h' e => by obtain ⟨rfl, e⟩ := e; exact K h' e)
theorem xr_V0r {b : Nat} {fs : List Value} {P : Option Nat → xm_H → Prop} (hd : decode (xt_code y) pc = .ok (.invokevirtual i, 3)) (hm : xm_okV (xt_own y) i z) (hb : h.1 b = some (.inl (xt_own z, fs))) (hn : xt_np z = 0) (hr : (rest.map fun v => v.category).sum ≤ 8) (hdd : d' < d)
    (Cz : xm_S g d' z (xm_entry z [.ref b]) h (xq_r P)) (K : ∀ (v : Option Nat) (h' : xm_H), P v h' → xm_S g d y (pc + 3, ls, va_rf v :: rest) h' Q) : xm_S g d y (pc, ls, .ref b :: rest) h Q := by
  cases d with
  | zero => exact absurd hdd (Nat.not_lt_zero _)
  | succ d => exact xr_callV (as := []) (rest := rest) hd hm rfl hb hn.symm (fun v hv => by simp at hv) hr (Cz.up (Nat.le_of_lt_succ hdd)) (fun r h' e => by obtain ⟨v, rfl, e⟩ := e; exact K v h' e)
theorem xr_V1i {b : Nat} {fs : List Value} {a1 : Value} {P : Int32 → xm_H → Prop} (hd : decode (xt_code y) pc = .ok (.invokevirtual i, 3)) (hm : xm_okV (xt_own y) i z) (hb : h.1 b = some (.inl (xt_own z, fs))) (hn : xt_np z = 1) (c1 : a1.category = 1) (hr : (rest.map fun v => v.category).sum ≤ 8) (hdd : d' < d)
    (Cz : xm_S g d' z (xm_entry z [.ref b, a1]) h (xq_i P)) (K : ∀ (v : Int32) (h' : xm_H), P v h' → xm_S g d y (pc + 3, ls, .int v :: rest) h' Q) : xm_S g d y (pc, ls, a1 :: .ref b :: rest) h Q := by
  cases d with
  | zero => exact absurd hdd (Nat.not_lt_zero _)
  | succ d => exact xr_callV (as := [a1]) (rest := rest) hd hm rfl hb hn.symm (fun v hv => by simp at hv; rcases hv with rfl <;> assumption) hr (Cz.up (Nat.le_of_lt_succ hdd)) (fun r h' e => by obtain ⟨v, rfl, e⟩ := e; exact K v h' e)
theorem xr_V1v {b : Nat} {fs : List Value} {a1 : Value} {P : xm_H → Prop} (hd : decode (xt_code y) pc = .ok (.invokevirtual i, 3)) (hm : xm_okV (xt_own y) i z) (hb : h.1 b = some (.inl (xt_own z, fs))) (hn : xt_np z = 1) (c1 : a1.category = 1) (hr : (rest.map fun v => v.category).sum ≤ 8) (hdd : d' < d)
    (Cz : xm_S g d' z (xm_entry z [.ref b, a1]) h (xq_v P)) (K : ∀ h' : xm_H, P h' → xm_S g d y (pc + 3, ls, rest) h' Q) : xm_S g d y (pc, ls, a1 :: .ref b :: rest) h Q := by
  cases d with
  | zero => exact absurd hdd (Nat.not_lt_zero _)
  | succ d => exact xr_callV (as := [a1]) (rest := rest) hd hm rfl hb hn.symm (fun v hv => by simp at hv; rcases hv with rfl <;> assumption) hr (Cz.up (Nat.le_of_lt_succ hdd)) (fun r h' e => by obtain ⟨rfl, e⟩ := e; exact K h' e)
theorem xr_V1r {b : Nat} {fs : List Value} {a1 : Value} {P : Option Nat → xm_H → Prop} (hd : decode (xt_code y) pc = .ok (.invokevirtual i, 3)) (hm : xm_okV (xt_own y) i z) (hb : h.1 b = some (.inl (xt_own z, fs))) (hn : xt_np z = 1) (c1 : a1.category = 1) (hr : (rest.map fun v => v.category).sum ≤ 8) (hdd : d' < d)
    (Cz : xm_S g d' z (xm_entry z [.ref b, a1]) h (xq_r P)) (K : ∀ (v : Option Nat) (h' : xm_H), P v h' → xm_S g d y (pc + 3, ls, va_rf v :: rest) h' Q) : xm_S g d y (pc, ls, a1 :: .ref b :: rest) h Q := by
  cases d with
  | zero => exact absurd hdd (Nat.not_lt_zero _)
  | succ d => exact xr_callV (as := [a1]) (rest := rest) hd hm rfl hb hn.symm (fun v hv => by simp at hv; rcases hv with rfl <;> assumption) hr (Cz.up (Nat.le_of_lt_succ hdd)) (fun r h' e => by obtain ⟨v, rfl, e⟩ := e; exact K v h' e)
theorem xr_V2i {b : Nat} {fs : List Value} {a1 a2 : Value} {P : Int32 → xm_H → Prop} (hd : decode (xt_code y) pc = .ok (.invokevirtual i, 3)) (hm : xm_okV (xt_own y) i z) (hb : h.1 b = some (.inl (xt_own z, fs))) (hn : xt_np z = 2) (c1 : a1.category = 1) (c2 : a2.category = 1) (hr : (rest.map fun v => v.category).sum ≤ 8) (hdd : d' < d)
    (Cz : xm_S g d' z (xm_entry z [.ref b, a1, a2]) h (xq_i P)) (K : ∀ (v : Int32) (h' : xm_H), P v h' → xm_S g d y (pc + 3, ls, .int v :: rest) h' Q) : xm_S g d y (pc, ls, a2 :: a1 :: .ref b :: rest) h Q := by
  cases d with
  | zero => exact absurd hdd (Nat.not_lt_zero _)
  | succ d => exact xr_callV (as := [a1, a2]) (rest := rest) hd hm rfl hb hn.symm (fun v hv => by simp at hv; rcases hv with rfl | rfl <;> assumption) hr (Cz.up (Nat.le_of_lt_succ hdd)) (fun r h' e => by obtain ⟨v, rfl, e⟩ := e; exact K v h' e)
theorem xr_V2v {b : Nat} {fs : List Value} {a1 a2 : Value} {P : xm_H → Prop} (hd : decode (xt_code y) pc = .ok (.invokevirtual i, 3)) (hm : xm_okV (xt_own y) i z) (hb : h.1 b = some (.inl (xt_own z, fs))) (hn : xt_np z = 2) (c1 : a1.category = 1) (c2 : a2.category = 1) (hr : (rest.map fun v => v.category).sum ≤ 8) (hdd : d' < d)
    (Cz : xm_S g d' z (xm_entry z [.ref b, a1, a2]) h (xq_v P)) (K : ∀ h' : xm_H, P h' → xm_S g d y (pc + 3, ls, rest) h' Q) : xm_S g d y (pc, ls, a2 :: a1 :: .ref b :: rest) h Q := by
  cases d with
  | zero => exact absurd hdd (Nat.not_lt_zero _)
  | succ d => exact xr_callV (as := [a1, a2]) (rest := rest) hd hm rfl hb hn.symm (fun v hv => by simp at hv; rcases hv with rfl | rfl <;> assumption) hr (Cz.up (Nat.le_of_lt_succ hdd)) (fun r h' e => by obtain ⟨rfl, e⟩ := e; exact K h' e)
theorem xr_V2r {b : Nat} {fs : List Value} {a1 a2 : Value} {P : Option Nat → xm_H → Prop} (hd : decode (xt_code y) pc = .ok (.invokevirtual i, 3)) (hm : xm_okV (xt_own y) i z) (hb : h.1 b = some (.inl (xt_own z, fs))) (hn : xt_np z = 2) (c1 : a1.category = 1) (c2 : a2.category = 1) (hr : (rest.map fun v => v.category).sum ≤ 8) (hdd : d' < d)
    (Cz : xm_S g d' z (xm_entry z [.ref b, a1, a2]) h (xq_r P)) (K : ∀ (v : Option Nat) (h' : xm_H), P v h' → xm_S g d y (pc + 3, ls, va_rf v :: rest) h' Q) : xm_S g d y (pc, ls, a2 :: a1 :: .ref b :: rest) h Q := by
  cases d with
  | zero => exact absurd hdd (Nat.not_lt_zero _)
  | succ d => exact xr_callV (as := [a1, a2]) (rest := rest) hd hm rfl hb hn.symm (fun v hv => by simp at hv; rcases hv with rfl | rfl <;> assumption) hr (Cz.up (Nat.le_of_lt_succ hdd)) (fun r h' e => by obtain ⟨v, rfl, e⟩ := e; exact K v h' e)
theorem xr_V3i {b : Nat} {fs : List Value} {a1 a2 a3 : Value} {P : Int32 → xm_H → Prop} (hd : decode (xt_code y) pc = .ok (.invokevirtual i, 3)) (hm : xm_okV (xt_own y) i z) (hb : h.1 b = some (.inl (xt_own z, fs))) (hn : xt_np z = 3) (c1 : a1.category = 1) (c2 : a2.category = 1) (c3 : a3.category = 1) (hr : (rest.map fun v => v.category).sum ≤ 8) (hdd : d' < d)
    (Cz : xm_S g d' z (xm_entry z [.ref b, a1, a2, a3]) h (xq_i P)) (K : ∀ (v : Int32) (h' : xm_H), P v h' → xm_S g d y (pc + 3, ls, .int v :: rest) h' Q) : xm_S g d y (pc, ls, a3 :: a2 :: a1 :: .ref b :: rest) h Q := by
  cases d with
  | zero => exact absurd hdd (Nat.not_lt_zero _)
  | succ d => exact xr_callV (as := [a1, a2, a3]) (rest := rest) hd hm rfl hb hn.symm (fun v hv => by simp at hv; rcases hv with rfl | rfl | rfl <;> assumption) hr (Cz.up (Nat.le_of_lt_succ hdd)) (fun r h' e => by obtain ⟨v, rfl, e⟩ := e; exact K v h' e)
theorem xr_V3v {b : Nat} {fs : List Value} {a1 a2 a3 : Value} {P : xm_H → Prop} (hd : decode (xt_code y) pc = .ok (.invokevirtual i, 3)) (hm : xm_okV (xt_own y) i z) (hb : h.1 b = some (.inl (xt_own z, fs))) (hn : xt_np z = 3) (c1 : a1.category = 1) (c2 : a2.category = 1) (c3 : a3.category = 1) (hr : (rest.map fun v => v.category).sum ≤ 8) (hdd : d' < d)
    (Cz : xm_S g d' z (xm_entry z [.ref b, a1, a2, a3]) h (xq_v P)) (K : ∀ h' : xm_H, P h' → xm_S g d y (pc + 3, ls, rest) h' Q) : xm_S g d y (pc, ls, a3 :: a2 :: a1 :: .ref b :: rest) h Q := by
  cases d with
  | zero => exact absurd hdd (Nat.not_lt_zero _)
  | succ d => exact xr_callV (as := [a1, a2, a3]) (rest := rest) hd hm rfl hb hn.symm (fun v hv => by simp at hv; rcases hv with rfl | rfl | rfl <;> assumption) hr (Cz.up (Nat.le_of_lt_succ hdd)) (fun r h' e => by obtain ⟨rfl, e⟩ := e; exact K h' e)
theorem xr_V3r {b : Nat} {fs : List Value} {a1 a2 a3 : Value} {P : Option Nat → xm_H → Prop} (hd : decode (xt_code y) pc = .ok (.invokevirtual i, 3)) (hm : xm_okV (xt_own y) i z) (hb : h.1 b = some (.inl (xt_own z, fs))) (hn : xt_np z = 3) (c1 : a1.category = 1) (c2 : a2.category = 1) (c3 : a3.category = 1) (hr : (rest.map fun v => v.category).sum ≤ 8) (hdd : d' < d)
    (Cz : xm_S g d' z (xm_entry z [.ref b, a1, a2, a3]) h (xq_r P)) (K : ∀ (v : Option Nat) (h' : xm_H), P v h' → xm_S g d y (pc + 3, ls, va_rf v :: rest) h' Q) : xm_S g d y (pc, ls, a3 :: a2 :: a1 :: .ref b :: rest) h Q := by
  cases d with
  | zero => exact absurd hdd (Nat.not_lt_zero _)
  | succ d => exact xr_callV (as := [a1, a2, a3]) (rest := rest) hd hm rfl hb hn.symm (fun v hv => by simp at hv; rcases hv with rfl | rfl | rfl <;> assumption) hr (Cz.up (Nat.le_of_lt_succ hdd)) (fun r h' e => by obtain ⟨v, rfl, e⟩ := e; exact K v h' e)
theorem xr_V4i {b : Nat} {fs : List Value} {a1 a2 a3 a4 : Value} {P : Int32 → xm_H → Prop} (hd : decode (xt_code y) pc = .ok (.invokevirtual i, 3)) (hm : xm_okV (xt_own y) i z) (hb : h.1 b = some (.inl (xt_own z, fs))) (hn : xt_np z = 4) (c1 : a1.category = 1) (c2 : a2.category = 1) (c3 : a3.category = 1) (c4 : a4.category = 1) (hr : (rest.map fun v => v.category).sum ≤ 8) (hdd : d' < d)
    (Cz : xm_S g d' z (xm_entry z [.ref b, a1, a2, a3, a4]) h (xq_i P)) (K : ∀ (v : Int32) (h' : xm_H), P v h' → xm_S g d y (pc + 3, ls, .int v :: rest) h' Q) : xm_S g d y (pc, ls, a4 :: a3 :: a2 :: a1 :: .ref b :: rest) h Q := by
  cases d with
  | zero => exact absurd hdd (Nat.not_lt_zero _)
  | succ d => exact xr_callV (as := [a1, a2, a3, a4]) (rest := rest) hd hm rfl hb hn.symm (fun v hv => by simp at hv; rcases hv with rfl | rfl | rfl | rfl <;> assumption) hr (Cz.up (Nat.le_of_lt_succ hdd)) (fun r h' e => by obtain ⟨v, rfl, e⟩ := e; exact K v h' e)
theorem xr_V4v {b : Nat} {fs : List Value} {a1 a2 a3 a4 : Value} {P : xm_H → Prop} (hd : decode (xt_code y) pc = .ok (.invokevirtual i, 3)) (hm : xm_okV (xt_own y) i z) (hb : h.1 b = some (.inl (xt_own z, fs))) (hn : xt_np z = 4) (c1 : a1.category = 1) (c2 : a2.category = 1) (c3 : a3.category = 1) (c4 : a4.category = 1) (hr : (rest.map fun v => v.category).sum ≤ 8) (hdd : d' < d)
    (Cz : xm_S g d' z (xm_entry z [.ref b, a1, a2, a3, a4]) h (xq_v P)) (K : ∀ h' : xm_H, P h' → xm_S g d y (pc + 3, ls, rest) h' Q) : xm_S g d y (pc, ls, a4 :: a3 :: a2 :: a1 :: .ref b :: rest) h Q := by
  cases d with
  | zero => exact absurd hdd (Nat.not_lt_zero _)
  | succ d => exact xr_callV (as := [a1, a2, a3, a4]) (rest := rest) hd hm rfl hb hn.symm (fun v hv => by simp at hv; rcases hv with rfl | rfl | rfl | rfl <;> assumption) hr (Cz.up (Nat.le_of_lt_succ hdd)) (fun r h' e => by obtain ⟨rfl, e⟩ := e; exact K h' e)
theorem xr_V4r {b : Nat} {fs : List Value} {a1 a2 a3 a4 : Value} {P : Option Nat → xm_H → Prop} (hd : decode (xt_code y) pc = .ok (.invokevirtual i, 3)) (hm : xm_okV (xt_own y) i z) (hb : h.1 b = some (.inl (xt_own z, fs))) (hn : xt_np z = 4) (c1 : a1.category = 1) (c2 : a2.category = 1) (c3 : a3.category = 1) (c4 : a4.category = 1) (hr : (rest.map fun v => v.category).sum ≤ 8) (hdd : d' < d)
    (Cz : xm_S g d' z (xm_entry z [.ref b, a1, a2, a3, a4]) h (xq_r P)) (K : ∀ (v : Option Nat) (h' : xm_H), P v h' → xm_S g d y (pc + 3, ls, va_rf v :: rest) h' Q) : xm_S g d y (pc, ls, a4 :: a3 :: a2 :: a1 :: .ref b :: rest) h Q := by
  cases d with
  | zero => exact absurd hdd (Nat.not_lt_zero _)
  | succ d => exact xr_callV (as := [a1, a2, a3, a4]) (rest := rest) hd hm rfl hb hn.symm (fun v hv => by simp at hv; rcases hv with rfl | rfl | rfl | rfl <;> assumption) hr (Cz.up (Nat.le_of_lt_succ hdd)) (fun r h' e => by obtain ⟨v, rfl, e⟩ := e; exact K v h' e)
theorem xr_V5i {b : Nat} {fs : List Value} {a1 a2 a3 a4 a5 : Value} {P : Int32 → xm_H → Prop} (hd : decode (xt_code y) pc = .ok (.invokevirtual i, 3)) (hm : xm_okV (xt_own y) i z) (hb : h.1 b = some (.inl (xt_own z, fs))) (hn : xt_np z = 5) (c1 : a1.category = 1) (c2 : a2.category = 1) (c3 : a3.category = 1) (c4 : a4.category = 1) (c5 : a5.category = 1) (hr : (rest.map fun v => v.category).sum ≤ 8) (hdd : d' < d)
    (Cz : xm_S g d' z (xm_entry z [.ref b, a1, a2, a3, a4, a5]) h (xq_i P)) (K : ∀ (v : Int32) (h' : xm_H), P v h' → xm_S g d y (pc + 3, ls, .int v :: rest) h' Q) : xm_S g d y (pc, ls, a5 :: a4 :: a3 :: a2 :: a1 :: .ref b :: rest) h Q := by
  cases d with
  | zero => exact absurd hdd (Nat.not_lt_zero _)
  | succ d => exact xr_callV (as := [a1, a2, a3, a4, a5]) (rest := rest) hd hm rfl hb hn.symm (fun v hv => by simp at hv; rcases hv with rfl | rfl | rfl | rfl | rfl <;> assumption) hr (Cz.up (Nat.le_of_lt_succ hdd)) (fun r h' e => by obtain ⟨v, rfl, e⟩ := e; exact K v h' e)
theorem xr_V5v {b : Nat} {fs : List Value} {a1 a2 a3 a4 a5 : Value} {P : xm_H → Prop} (hd : decode (xt_code y) pc = .ok (.invokevirtual i, 3)) (hm : xm_okV (xt_own y) i z) (hb : h.1 b = some (.inl (xt_own z, fs))) (hn : xt_np z = 5) (c1 : a1.category = 1) (c2 : a2.category = 1) (c3 : a3.category = 1) (c4 : a4.category = 1) (c5 : a5.category = 1) (hr : (rest.map fun v => v.category).sum ≤ 8) (hdd : d' < d)
    (Cz : xm_S g d' z (xm_entry z [.ref b, a1, a2, a3, a4, a5]) h (xq_v P)) (K : ∀ h' : xm_H, P h' → xm_S g d y (pc + 3, ls, rest) h' Q) : xm_S g d y (pc, ls, a5 :: a4 :: a3 :: a2 :: a1 :: .ref b :: rest) h Q := by
  cases d with
  | zero => exact absurd hdd (Nat.not_lt_zero _)
  | succ d => exact xr_callV (as := [a1, a2, a3, a4, a5]) (rest := rest) hd hm rfl hb hn.symm (fun v hv => by simp at hv; rcases hv with rfl | rfl | rfl | rfl | rfl <;> assumption) hr (Cz.up (Nat.le_of_lt_succ hdd)) (fun r h' e => by obtain ⟨rfl, e⟩ := e; exact K h' e)
theorem xr_V5r {b : Nat} {fs : List Value} {a1 a2 a3 a4 a5 : Value} {P : Option Nat → xm_H → Prop} (hd : decode (xt_code y) pc = .ok (.invokevirtual i, 3)) (hm : xm_okV (xt_own y) i z) (hb : h.1 b = some (.inl (xt_own z, fs))) (hn : xt_np z = 5) (c1 : a1.category = 1) (c2 : a2.category = 1) (c3 : a3.category = 1) (c4 : a4.category = 1) (c5 : a5.category = 1) (hr : (rest.map fun v => v.category).sum ≤ 8) (hdd : d' < d)
    (Cz : xm_S g d' z (xm_entry z [.ref b, a1, a2, a3, a4, a5]) h (xq_r P)) (K : ∀ (v : Option Nat) (h' : xm_H), P v h' → xm_S g d y (pc + 3, ls, va_rf v :: rest) h' Q) : xm_S g d y (pc, ls, a5 :: a4 :: a3 :: a2 :: a1 :: .ref b :: rest) h Q := by
  cases d with
  | zero => exact absurd hdd (Nat.not_lt_zero _)
  | succ d => exact xr_callV (as := [a1, a2, a3, a4, a5]) (rest := rest) hd hm rfl hb hn.symm (fun v hv => by simp at hv; rcases hv with rfl | rfl | rfl | rfl | rfl <;> assumption) hr (Cz.up (Nat.le_of_lt_succ hdd)) (fun r h' e => by obtain ⟨v, rfl, e⟩ := e; exact K v h' e)
theorem xr_V6i {b : Nat} {fs : List Value} {a1 a2 a3 a4 a5 a6 : Value} {P : Int32 → xm_H → Prop} (hd : decode (xt_code y) pc = .ok (.invokevirtual i, 3)) (hm : xm_okV (xt_own y) i z) (hb : h.1 b = some (.inl (xt_own z, fs))) (hn : xt_np z = 6) (c1 : a1.category = 1) (c2 : a2.category = 1) (c3 : a3.category = 1) (c4 : a4.category = 1) (c5 : a5.category = 1) (c6 : a6.category = 1) (hr : (rest.map fun v => v.category).sum ≤ 8) (hdd : d' < d)
    (Cz : xm_S g d' z (xm_entry z [.ref b, a1, a2, a3, a4, a5, a6]) h (xq_i P)) (K : ∀ (v : Int32) (h' : xm_H), P v h' → xm_S g d y (pc + 3, ls, .int v :: rest) h' Q) : xm_S g d y (pc, ls, a6 :: a5 :: a4 :: a3 :: a2 :: a1 :: .ref b :: rest) h Q := by
  cases d with
  | zero => exact absurd hdd (Nat.not_lt_zero _)
  | succ d => exact xr_callV (as := [a1, a2, a3, a4, a5, a6]) (rest := rest) hd hm rfl hb hn.symm (fun v hv => by simp at hv; rcases hv with rfl | rfl | rfl | rfl | rfl | rfl <;> assumption) hr (Cz.up (Nat.le_of_lt_succ hdd)) (fun r h' e => by obtain ⟨v, rfl, e⟩ := e; exact K v h' e)
theorem xr_V6v {b : Nat} {fs : List Value} {a1 a2 a3 a4 a5 a6 : Value} {P : xm_H → Prop} (hd : decode (xt_code y) pc = .ok (.invokevirtual i, 3)) (hm : xm_okV (xt_own y) i z) (hb : h.1 b = some (.inl (xt_own z, fs))) (hn : xt_np z = 6) (c1 : a1.category = 1) (c2 : a2.category = 1) (c3 : a3.category = 1) (c4 : a4.category = 1) (c5 : a5.category = 1) (c6 : a6.category = 1) (hr : (rest.map fun v => v.category).sum ≤ 8) (hdd : d' < d)
    (Cz : xm_S g d' z (xm_entry z [.ref b, a1, a2, a3, a4, a5, a6]) h (xq_v P)) (K : ∀ h' : xm_H, P h' → xm_S g d y (pc + 3, ls, rest) h' Q) : xm_S g d y (pc, ls, a6 :: a5 :: a4 :: a3 :: a2 :: a1 :: .ref b :: rest) h Q := by
  cases d with
  | zero => exact absurd hdd (Nat.not_lt_zero _)
  | succ d => exact xr_callV (as := [a1, a2, a3, a4, a5, a6]) (rest := rest) hd hm rfl hb hn.symm (fun v hv => by simp at hv; rcases hv with rfl | rfl | rfl | rfl | rfl | rfl <;> assumption) hr (Cz.up (Nat.le_of_lt_succ hdd)) (fun r h' e => by obtain ⟨rfl, e⟩ := e; exact K h' e)
theorem xr_V6r {b : Nat} {fs : List Value} {a1 a2 a3 a4 a5 a6 : Value} {P : Option Nat → xm_H → Prop} (hd : decode (xt_code y) pc = .ok (.invokevirtual i, 3)) (hm : xm_okV (xt_own y) i z) (hb : h.1 b = some (.inl (xt_own z, fs))) (hn : xt_np z = 6) (c1 : a1.category = 1) (c2 : a2.category = 1) (c3 : a3.category = 1) (c4 : a4.category = 1) (c5 : a5.category = 1) (c6 : a6.category = 1) (hr : (rest.map fun v => v.category).sum ≤ 8) (hdd : d' < d)
    (Cz : xm_S g d' z (xm_entry z [.ref b, a1, a2, a3, a4, a5, a6]) h (xq_r P)) (K : ∀ (v : Option Nat) (h' : xm_H), P v h' → xm_S g d y (pc + 3, ls, va_rf v :: rest) h' Q) : xm_S g d y (pc, ls, a6 :: a5 :: a4 :: a3 :: a2 :: a1 :: .ref b :: rest) h Q := by
  cases d with
  | zero => exact absurd hdd (Nat.not_lt_zero _)
  | succ d => exact xr_callV (as := [a1, a2, a3, a4, a5, a6]) (rest := rest) hd hm rfl hb hn.symm (fun v hv => by simp at hv; rcases hv with rfl | rfl | rfl | rfl | rfl | rfl <;> assumption) hr (Cz.up (Nat.le_of_lt_succ hdd)) (fun r h' e => by obtain ⟨v, rfl, e⟩ := e; exact K v h' e)
theorem xr_S0i {P : Int32 → xm_H → Prop} (hd : decode (xt_code y) pc = .ok (.invokestatic i, 3)) (hm : xm_okS (xt_own y) i z) (hn : xt_np z = 0) (hr : (rest.map fun v => v.category).sum ≤ 8) (hdd : d' < d)
    (Cz : xm_S g d' z (xm_entry z []) h (xq_i P)) (K : ∀ (v : Int32) (h' : xm_H), P v h' → xm_S g d y (pc + 3, ls, .int v :: rest) h' Q) : xm_S g d y (pc, ls, rest) h Q := by
  cases d with
  | zero => exact absurd hdd (Nat.not_lt_zero _)
  | succ d => exact xr_callS (as := []) (rest := rest) hd hm rfl hn.symm (fun v hv => by simp at hv) hr (Cz.up (Nat.le_of_lt_succ hdd)) (fun r h' e => by obtain ⟨v, rfl, e⟩ := e; exact K v h' e)
theorem xr_S0v {P : xm_H → Prop} (hd : decode (xt_code y) pc = .ok (.invokestatic i, 3)) (hm : xm_okS (xt_own y) i z) (hn : xt_np z = 0) (hr : (rest.map fun v => v.category).sum ≤ 8) (hdd : d' < d)
    (Cz : xm_S g d' z (xm_entry z []) h (xq_v P)) (K : ∀ h' : xm_H, P h' → xm_S g d y (pc + 3, ls, rest) h' Q) : xm_S g d y (pc, ls, rest) h Q := by
  cases d with
  | zero => exact absurd hdd (Nat.not_lt_zero _)
  | succ d => exact xr_callS (as := []) (rest := rest) hd hm rfl hn.symm (fun v hv => by simp at hv) hr (Cz.up (Nat.le_of_lt_succ hdd)) (fun r h' e => by obtain ⟨rfl, e⟩ := e; exact K h' e)
theorem xr_S0r {P : Option Nat → xm_H → Prop} (hd : decode (xt_code y) pc = .ok (.invokestatic i, 3)) (hm : xm_okS (xt_own y) i z) (hn : xt_np z = 0) (hr : (rest.map fun v => v.category).sum ≤ 8) (hdd : d' < d)
    (Cz : xm_S g d' z (xm_entry z []) h (xq_r P)) (K : ∀ (v : Option Nat) (h' : xm_H), P v h' → xm_S g d y (pc + 3, ls, va_rf v :: rest) h' Q) : xm_S g d y (pc, ls, rest) h Q := by
  cases d with
  | zero => exact absurd hdd (Nat.not_lt_zero _)
  | succ d => exact xr_callS (as := []) (rest := rest) hd hm rfl hn.symm (fun v hv => by simp at hv) hr (Cz.up (Nat.le_of_lt_succ hdd)) (fun r h' e => by obtain ⟨v, rfl, e⟩ := e; exact K v h' e)
theorem xr_S1i {a1 : Value} {P : Int32 → xm_H → Prop} (hd : decode (xt_code y) pc = .ok (.invokestatic i, 3)) (hm : xm_okS (xt_own y) i z) (hn : xt_np z = 1) (c1 : a1.category = 1) (hr : (rest.map fun v => v.category).sum ≤ 8) (hdd : d' < d)
    (Cz : xm_S g d' z (xm_entry z [a1]) h (xq_i P)) (K : ∀ (v : Int32) (h' : xm_H), P v h' → xm_S g d y (pc + 3, ls, .int v :: rest) h' Q) : xm_S g d y (pc, ls, a1 :: rest) h Q := by
  cases d with
  | zero => exact absurd hdd (Nat.not_lt_zero _)
  | succ d => exact xr_callS (as := [a1]) (rest := rest) hd hm rfl hn.symm (fun v hv => by simp at hv; rcases hv with rfl <;> assumption) hr (Cz.up (Nat.le_of_lt_succ hdd)) (fun r h' e => by obtain ⟨v, rfl, e⟩ := e; exact K v h' e)
theorem xr_S1v {a1 : Value} {P : xm_H → Prop} (hd : decode (xt_code y) pc = .ok (.invokestatic i, 3)) (hm : xm_okS (xt_own y) i z) (hn : xt_np z = 1) (c1 : a1.category = 1) (hr : (rest.map fun v => v.category).sum ≤ 8) (hdd : d' < d)
    (Cz : xm_S g d' z (xm_entry z [a1]) h (xq_v P)) (K : ∀ h' : xm_H, P h' → xm_S g d y (pc + 3, ls, rest) h' Q) : xm_S g d y (pc, ls, a1 :: rest) h Q := by
  cases d with
  | zero => exact absurd hdd (Nat.not_lt_zero _)
  | succ d => exact xr_callS (as := [a1]) (rest := rest) hd hm rfl hn.symm (fun v hv => by simp at hv; rcases hv with rfl <;> assumption) hr (Cz.up (Nat.le_of_lt_succ hdd)) (fun r h' e => by obtain ⟨rfl, e⟩ := e; exact K h' e)
theorem xr_S1r {a1 : Value} {P : Option Nat → xm_H → Prop} (hd : decode (xt_code y) pc = .ok (.invokestatic i, 3)) (hm : xm_okS (xt_own y) i z) (hn : xt_np z = 1) (c1 : a1.category = 1) (hr : (rest.map fun v => v.category).sum ≤ 8) (hdd : d' < d)
    (Cz : xm_S g d' z (xm_entry z [a1]) h (xq_r P)) (K : ∀ (v : Option Nat) (h' : xm_H), P v h' → xm_S g d y (pc + 3, ls, va_rf v :: rest) h' Q) : xm_S g d y (pc, ls, a1 :: rest) h Q := by
  cases d with
  | zero => exact absurd hdd (Nat.not_lt_zero _)
  | succ d => exact xr_callS (as := [a1]) (rest := rest) hd hm rfl hn.symm (fun v hv => by simp at hv; rcases hv with rfl <;> assumption) hr (Cz.up (Nat.le_of_lt_succ hdd)) (fun r h' e => by obtain ⟨v, rfl, e⟩ := e; exact K v h' e)
theorem xr_S2i {a1 a2 : Value} {P : Int32 → xm_H → Prop} (hd : decode (xt_code y) pc = .ok (.invokestatic i, 3)) (hm : xm_okS (xt_own y) i z) (hn : xt_np z = 2) (c1 : a1.category = 1) (c2 : a2.category = 1) (hr : (rest.map fun v => v.category).sum ≤ 8) (hdd : d' < d)
    (Cz : xm_S g d' z (xm_entry z [a1, a2]) h (xq_i P)) (K : ∀ (v : Int32) (h' : xm_H), P v h' → xm_S g d y (pc + 3, ls, .int v :: rest) h' Q) : xm_S g d y (pc, ls, a2 :: a1 :: rest) h Q := by
  cases d with
  | zero => exact absurd hdd (Nat.not_lt_zero _)
  | succ d => exact xr_callS (as := [a1, a2]) (rest := rest) hd hm rfl hn.symm (fun v hv => by simp at hv; rcases hv with rfl | rfl <;> assumption) hr (Cz.up (Nat.le_of_lt_succ hdd)) (fun r h' e => by obtain ⟨v, rfl, e⟩ := e; exact K v h' e)
theorem xr_S2v {a1 a2 : Value} {P : xm_H → Prop} (hd : decode (xt_code y) pc = .ok (.invokestatic i, 3)) (hm : xm_okS (xt_own y) i z) (hn : xt_np z = 2) (c1 : a1.category = 1) (c2 : a2.category = 1) (hr : (rest.map fun v => v.category).sum ≤ 8) (hdd : d' < d)
    (Cz : xm_S g d' z (xm_entry z [a1, a2]) h (xq_v P)) (K : ∀ h' : xm_H, P h' → xm_S g d y (pc + 3, ls, rest) h' Q) : xm_S g d y (pc, ls, a2 :: a1 :: rest) h Q := by
  cases d with
  | zero => exact absurd hdd (Nat.not_lt_zero _)
  | succ d => exact xr_callS (as := [a1, a2]) (rest := rest) hd hm rfl hn.symm (fun v hv => by simp at hv; rcases hv with rfl | rfl <;> assumption) hr (Cz.up (Nat.le_of_lt_succ hdd)) (fun r h' e => by obtain ⟨rfl, e⟩ := e; exact K h' e)
theorem xr_S2r {a1 a2 : Value} {P : Option Nat → xm_H → Prop} (hd : decode (xt_code y) pc = .ok (.invokestatic i, 3)) (hm : xm_okS (xt_own y) i z) (hn : xt_np z = 2) (c1 : a1.category = 1) (c2 : a2.category = 1) (hr : (rest.map fun v => v.category).sum ≤ 8) (hdd : d' < d)
    (Cz : xm_S g d' z (xm_entry z [a1, a2]) h (xq_r P)) (K : ∀ (v : Option Nat) (h' : xm_H), P v h' → xm_S g d y (pc + 3, ls, va_rf v :: rest) h' Q) : xm_S g d y (pc, ls, a2 :: a1 :: rest) h Q := by
  cases d with
  | zero => exact absurd hdd (Nat.not_lt_zero _)
  | succ d => exact xr_callS (as := [a1, a2]) (rest := rest) hd hm rfl hn.symm (fun v hv => by simp at hv; rcases hv with rfl | rfl <;> assumption) hr (Cz.up (Nat.le_of_lt_succ hdd)) (fun r h' e => by obtain ⟨v, rfl, e⟩ := e; exact K v h' e)
theorem xr_S3i {a1 a2 a3 : Value} {P : Int32 → xm_H → Prop} (hd : decode (xt_code y) pc = .ok (.invokestatic i, 3)) (hm : xm_okS (xt_own y) i z) (hn : xt_np z = 3) (c1 : a1.category = 1) (c2 : a2.category = 1) (c3 : a3.category = 1) (hr : (rest.map fun v => v.category).sum ≤ 8) (hdd : d' < d)
    (Cz : xm_S g d' z (xm_entry z [a1, a2, a3]) h (xq_i P)) (K : ∀ (v : Int32) (h' : xm_H), P v h' → xm_S g d y (pc + 3, ls, .int v :: rest) h' Q) : xm_S g d y (pc, ls, a3 :: a2 :: a1 :: rest) h Q := by
  cases d with
  | zero => exact absurd hdd (Nat.not_lt_zero _)
  | succ d => exact xr_callS (as := [a1, a2, a3]) (rest := rest) hd hm rfl hn.symm (fun v hv => by simp at hv; rcases hv with rfl | rfl | rfl <;> assumption) hr (Cz.up (Nat.le_of_lt_succ hdd)) (fun r h' e => by obtain ⟨v, rfl, e⟩ := e; exact K v h' e)
theorem xr_S3v {a1 a2 a3 : Value} {P : xm_H → Prop} (hd : decode (xt_code y) pc = .ok (.invokestatic i, 3)) (hm : xm_okS (xt_own y) i z) (hn : xt_np z = 3) (c1 : a1.category = 1) (c2 : a2.category = 1) (c3 : a3.category = 1) (hr : (rest.map fun v => v.category).sum ≤ 8) (hdd : d' < d)
    (Cz : xm_S g d' z (xm_entry z [a1, a2, a3]) h (xq_v P)) (K : ∀ h' : xm_H, P h' → xm_S g d y (pc + 3, ls, rest) h' Q) : xm_S g d y (pc, ls, a3 :: a2 :: a1 :: rest) h Q := by
  cases d with
  | zero => exact absurd hdd (Nat.not_lt_zero _)
  | succ d => exact xr_callS (as := [a1, a2, a3]) (rest := rest) hd hm rfl hn.symm (fun v hv => by simp at hv; rcases hv with rfl | rfl | rfl <;> assumption) hr (Cz.up (Nat.le_of_lt_succ hdd)) (fun r h' e => by obtain ⟨rfl, e⟩ := e; exact K h' e)
theorem xr_S3r {a1 a2 a3 : Value} {P : Option Nat → xm_H → Prop} (hd : decode (xt_code y) pc = .ok (.invokestatic i, 3)) (hm : xm_okS (xt_own y) i z) (hn : xt_np z = 3) (c1 : a1.category = 1) (c2 : a2.category = 1) (c3 : a3.category = 1) (hr : (rest.map fun v => v.category).sum ≤ 8) (hdd : d' < d)
    (Cz : xm_S g d' z (xm_entry z [a1, a2, a3]) h (xq_r P)) (K : ∀ (v : Option Nat) (h' : xm_H), P v h' → xm_S g d y (pc + 3, ls, va_rf v :: rest) h' Q) : xm_S g d y (pc, ls, a3 :: a2 :: a1 :: rest) h Q := by
  cases d with
  | zero => exact absurd hdd (Nat.not_lt_zero _)
  | succ d => exact xr_callS (as := [a1, a2, a3]) (rest := rest) hd hm rfl hn.symm (fun v hv => by simp at hv; rcases hv with rfl | rfl | rfl <;> assumption) hr (Cz.up (Nat.le_of_lt_succ hdd)) (fun r h' e => by obtain ⟨v, rfl, e⟩ := e; exact K v h' e)
theorem xr_S4i {a1 a2 a3 a4 : Value} {P : Int32 → xm_H → Prop} (hd : decode (xt_code y) pc = .ok (.invokestatic i, 3)) (hm : xm_okS (xt_own y) i z) (hn : xt_np z = 4) (c1 : a1.category = 1) (c2 : a2.category = 1) (c3 : a3.category = 1) (c4 : a4.category = 1) (hr : (rest.map fun v => v.category).sum ≤ 8) (hdd : d' < d)
    (Cz : xm_S g d' z (xm_entry z [a1, a2, a3, a4]) h (xq_i P)) (K : ∀ (v : Int32) (h' : xm_H), P v h' → xm_S g d y (pc + 3, ls, .int v :: rest) h' Q) : xm_S g d y (pc, ls, a4 :: a3 :: a2 :: a1 :: rest) h Q := by
  cases d with
  | zero => exact absurd hdd (Nat.not_lt_zero _)
  | succ d => exact xr_callS (as := [a1, a2, a3, a4]) (rest := rest) hd hm rfl hn.symm (fun v hv => by simp at hv; rcases hv with rfl | rfl | rfl | rfl <;> assumption) hr (Cz.up (Nat.le_of_lt_succ hdd)) (fun r h' e => by obtain ⟨v, rfl, e⟩ := e; exact K v h' e)
theorem xr_S4v {a1 a2 a3 a4 : Value} {P : xm_H → Prop} (hd : decode (xt_code y) pc = .ok (.invokestatic i, 3)) (hm : xm_okS (xt_own y) i z) (hn : xt_np z = 4) (c1 : a1.category = 1) (c2 : a2.category = 1) (c3 : a3.category = 1) (c4 : a4.category = 1) (hr : (rest.map fun v => v.category).sum ≤ 8) (hdd : d' < d)
    (Cz : xm_S g d' z (xm_entry z [a1, a2, a3, a4]) h (xq_v P)) (K : ∀ h' : xm_H, P h' → xm_S g d y (pc + 3, ls, rest) h' Q) : xm_S g d y (pc, ls, a4 :: a3 :: a2 :: a1 :: rest) h Q := by
  cases d with
  | zero => exact absurd hdd (Nat.not_lt_zero _)
  | succ d => exact xr_callS (as := [a1, a2, a3, a4]) (rest := rest) hd hm rfl hn.symm (fun v hv => by simp at hv; rcases hv with rfl | rfl | rfl | rfl <;> assumption) hr (Cz.up (Nat.le_of_lt_succ hdd)) (fun r h' e => by obtain ⟨rfl, e⟩ := e; exact K h' e)
theorem xr_S4r {a1 a2 a3 a4 : Value} {P : Option Nat → xm_H → Prop} (hd : decode (xt_code y) pc = .ok (.invokestatic i, 3)) (hm : xm_okS (xt_own y) i z) (hn : xt_np z = 4) (c1 : a1.category = 1) (c2 : a2.category = 1) (c3 : a3.category = 1) (c4 : a4.category = 1) (hr : (rest.map fun v => v.category).sum ≤ 8) (hdd : d' < d)
    (Cz : xm_S g d' z (xm_entry z [a1, a2, a3, a4]) h (xq_r P)) (K : ∀ (v : Option Nat) (h' : xm_H), P v h' → xm_S g d y (pc + 3, ls, va_rf v :: rest) h' Q) : xm_S g d y (pc, ls, a4 :: a3 :: a2 :: a1 :: rest) h Q := by
  cases d with
  | zero => exact absurd hdd (Nat.not_lt_zero _)
  | succ d => exact xr_callS (as := [a1, a2, a3, a4]) (rest := rest) hd hm rfl hn.symm (fun v hv => by simp at hv; rcases hv with rfl | rfl | rfl | rfl <;> assumption) hr (Cz.up (Nat.le_of_lt_succ hdd)) (fun r h' e => by obtain ⟨v, rfl, e⟩ := e; exact K v h' e)
theorem xr_S5i {a1 a2 a3 a4 a5 : Value} {P : Int32 → xm_H → Prop} (hd : decode (xt_code y) pc = .ok (.invokestatic i, 3)) (hm : xm_okS (xt_own y) i z) (hn : xt_np z = 5) (c1 : a1.category = 1) (c2 : a2.category = 1) (c3 : a3.category = 1) (c4 : a4.category = 1) (c5 : a5.category = 1) (hr : (rest.map fun v => v.category).sum ≤ 8) (hdd : d' < d)
    (Cz : xm_S g d' z (xm_entry z [a1, a2, a3, a4, a5]) h (xq_i P)) (K : ∀ (v : Int32) (h' : xm_H), P v h' → xm_S g d y (pc + 3, ls, .int v :: rest) h' Q) : xm_S g d y (pc, ls, a5 :: a4 :: a3 :: a2 :: a1 :: rest) h Q := by
  cases d with
  | zero => exact absurd hdd (Nat.not_lt_zero _)
  | succ d => exact xr_callS (as := [a1, a2, a3, a4, a5]) (rest := rest) hd hm rfl hn.symm (fun v hv => by simp at hv; rcases hv with rfl | rfl | rfl | rfl | rfl <;> assumption) hr (Cz.up (Nat.le_of_lt_succ hdd)) (fun r h' e => by obtain ⟨v, rfl, e⟩ := e; exact K v h' e)
theorem xr_S5v {a1 a2 a3 a4 a5 : Value} {P : xm_H → Prop} (hd : decode (xt_code y) pc = .ok (.invokestatic i, 3)) (hm : xm_okS (xt_own y) i z) (hn : xt_np z = 5) (c1 : a1.category = 1) (c2 : a2.category = 1) (c3 : a3.category = 1) (c4 : a4.category = 1) (c5 : a5.category = 1) (hr : (rest.map fun v => v.category).sum ≤ 8) (hdd : d' < d)
    (Cz : xm_S g d' z (xm_entry z [a1, a2, a3, a4, a5]) h (xq_v P)) (K : ∀ h' : xm_H, P h' → xm_S g d y (pc + 3, ls, rest) h' Q) : xm_S g d y (pc, ls, a5 :: a4 :: a3 :: a2 :: a1 :: rest) h Q := by
  cases d with
  | zero => exact absurd hdd (Nat.not_lt_zero _)
  | succ d => exact xr_callS (as := [a1, a2, a3, a4, a5]) (rest := rest) hd hm rfl hn.symm (fun v hv => by simp at hv; rcases hv with rfl | rfl | rfl | rfl | rfl <;> assumption) hr (Cz.up (Nat.le_of_lt_succ hdd)) (fun r h' e => by obtain ⟨rfl, e⟩ := e; exact K h' e)
theorem xr_S5r {a1 a2 a3 a4 a5 : Value} {P : Option Nat → xm_H → Prop} (hd : decode (xt_code y) pc = .ok (.invokestatic i, 3)) (hm : xm_okS (xt_own y) i z) (hn : xt_np z = 5) (c1 : a1.category = 1) (c2 : a2.category = 1) (c3 : a3.category = 1) (c4 : a4.category = 1) (c5 : a5.category = 1) (hr : (rest.map fun v => v.category).sum ≤ 8) (hdd : d' < d)
    (Cz : xm_S g d' z (xm_entry z [a1, a2, a3, a4, a5]) h (xq_r P)) (K : ∀ (v : Option Nat) (h' : xm_H), P v h' → xm_S g d y (pc + 3, ls, va_rf v :: rest) h' Q) : xm_S g d y (pc, ls, a5 :: a4 :: a3 :: a2 :: a1 :: rest) h Q := by
  cases d with
  | zero => exact absurd hdd (Nat.not_lt_zero _)
  | succ d => exact xr_callS (as := [a1, a2, a3, a4, a5]) (rest := rest) hd hm rfl hn.symm (fun v hv => by simp at hv; rcases hv with rfl | rfl | rfl | rfl | rfl <;> assumption) hr (Cz.up (Nat.le_of_lt_succ hdd)) (fun r h' e => by obtain ⟨v, rfl, e⟩ := e; exact K v h' e)
theorem xr_S6i {a1 a2 a3 a4 a5 a6 : Value} {P : Int32 → xm_H → Prop} (hd : decode (xt_code y) pc = .ok (.invokestatic i, 3)) (hm : xm_okS (xt_own y) i z) (hn : xt_np z = 6) (c1 : a1.category = 1) (c2 : a2.category = 1) (c3 : a3.category = 1) (c4 : a4.category = 1) (c5 : a5.category = 1) (c6 : a6.category = 1) (hr : (rest.map fun v => v.category).sum ≤ 8) (hdd : d' < d)
    (Cz : xm_S g d' z (xm_entry z [a1, a2, a3, a4, a5, a6]) h (xq_i P)) (K : ∀ (v : Int32) (h' : xm_H), P v h' → xm_S g d y (pc + 3, ls, .int v :: rest) h' Q) : xm_S g d y (pc, ls, a6 :: a5 :: a4 :: a3 :: a2 :: a1 :: rest) h Q := by
  cases d with
  | zero => exact absurd hdd (Nat.not_lt_zero _)
  | succ d => exact xr_callS (as := [a1, a2, a3, a4, a5, a6]) (rest := rest) hd hm rfl hn.symm (fun v hv => by simp at hv; rcases hv with rfl | rfl | rfl | rfl | rfl | rfl <;> assumption) hr (Cz.up (Nat.le_of_lt_succ hdd)) (fun r h' e => by obtain ⟨v, rfl, e⟩ := e; exact K v h' e)
theorem xr_S6v {a1 a2 a3 a4 a5 a6 : Value} {P : xm_H → Prop} (hd : decode (xt_code y) pc = .ok (.invokestatic i, 3)) (hm : xm_okS (xt_own y) i z) (hn : xt_np z = 6) (c1 : a1.category = 1) (c2 : a2.category = 1) (c3 : a3.category = 1) (c4 : a4.category = 1) (c5 : a5.category = 1) (c6 : a6.category = 1) (hr : (rest.map fun v => v.category).sum ≤ 8) (hdd : d' < d)
    (Cz : xm_S g d' z (xm_entry z [a1, a2, a3, a4, a5, a6]) h (xq_v P)) (K : ∀ h' : xm_H, P h' → xm_S g d y (pc + 3, ls, rest) h' Q) : xm_S g d y (pc, ls, a6 :: a5 :: a4 :: a3 :: a2 :: a1 :: rest) h Q := by
  cases d with
  | zero => exact absurd hdd (Nat.not_lt_zero _)
  | succ d => exact xr_callS (as := [a1, a2, a3, a4, a5, a6]) (rest := rest) hd hm rfl hn.symm (fun v hv => by simp at hv; rcases hv with rfl | rfl | rfl | rfl | rfl | rfl <;> assumption) hr (Cz.up (Nat.le_of_lt_succ hdd)) (fun r h' e => by obtain ⟨rfl, e⟩ := e; exact K h' e)
theorem xr_S6r {a1 a2 a3 a4 a5 a6 : Value} {P : Option Nat → xm_H → Prop} (hd : decode (xt_code y) pc = .ok (.invokestatic i, 3)) (hm : xm_okS (xt_own y) i z) (hn : xt_np z = 6) (c1 : a1.category = 1) (c2 : a2.category = 1) (c3 : a3.category = 1) (c4 : a4.category = 1) (c5 : a5.category = 1) (c6 : a6.category = 1) (hr : (rest.map fun v => v.category).sum ≤ 8) (hdd : d' < d)
    (Cz : xm_S g d' z (xm_entry z [a1, a2, a3, a4, a5, a6]) h (xq_r P)) (K : ∀ (v : Option Nat) (h' : xm_H), P v h' → xm_S g d y (pc + 3, ls, va_rf v :: rest) h' Q) : xm_S g d y (pc, ls, a6 :: a5 :: a4 :: a3 :: a2 :: a1 :: rest) h Q := by
  cases d with
  | zero => exact absurd hdd (Nat.not_lt_zero _)
  | succ d => exact xr_callS (as := [a1, a2, a3, a4, a5, a6]) (rest := rest) hd hm rfl hn.symm (fun v hv => by simp at hv; rcases hv with rfl | rfl | rfl | rfl | rfl | rfl <;> assumption) hr (Cz.up (Nat.le_of_lt_succ hdd)) (fun r h' e => by obtain ⟨v, rfl, e⟩ := e; exact K v h' e)
theorem xr_I0v {b : Nat} {P : xm_H → Prop} (hd : decode (xt_code y) pc = .ok (.invokespecial i, 3)) (hm : xm_okI (xt_own y) i z) (hn : xt_np z = 0) (hr : (rest.map fun v => v.category).sum ≤ 8) (hdd : d' < d)
    (Cz : xm_S g d' z (xm_entry z [.ref b]) h (xq_v P)) (K : ∀ h' : xm_H, P h' → xm_S g d y (pc + 3, ls, rest) h' Q) : xm_S g d y (pc, ls, .ref b :: rest) h Q := by
  cases d with
  | zero => exact absurd hdd (Nat.not_lt_zero _)
  | succ d => exact xr_callI (as := []) (rest := rest) hd hm rfl hn.symm (fun v hv => by simp at hv) hr (Cz.up (Nat.le_of_lt_succ hdd)) (fun r h' e => by obtain ⟨rfl, e⟩ := e; exact K h' e)
theorem xr_I1v {b : Nat} {a1 : Value} {P : xm_H → Prop} (hd : decode (xt_code y) pc = .ok (.invokespecial i, 3)) (hm : xm_okI (xt_own y) i z) (hn : xt_np z = 1) (c1 : a1.category = 1) (hr : (rest.map fun v => v.category).sum ≤ 8) (hdd : d' < d)
    (Cz : xm_S g d' z (xm_entry z [.ref b, a1]) h (xq_v P)) (K : ∀ h' : xm_H, P h' → xm_S g d y (pc + 3, ls, rest) h' Q) : xm_S g d y (pc, ls, a1 :: .ref b :: rest) h Q := by
  cases d with
  | zero => exact absurd hdd (Nat.not_lt_zero _)
  | succ d => exact xr_callI (as := [a1]) (rest := rest) hd hm rfl hn.symm (fun v hv => by simp at hv; rcases hv with rfl <;> assumption) hr (Cz.up (Nat.le_of_lt_succ hdd)) (fun r h' e => by obtain ⟨rfl, e⟩ := e; exact K h' e)
theorem xr_I2v {b : Nat} {a1 a2 : Value} {P : xm_H → Prop} (hd : decode (xt_code y) pc = .ok (.invokespecial i, 3)) (hm : xm_okI (xt_own y) i z) (hn : xt_np z = 2) (c1 : a1.category = 1) (c2 : a2.category = 1) (hr : (rest.map fun v => v.category).sum ≤ 8) (hdd : d' < d)
    (Cz : xm_S g d' z (xm_entry z [.ref b, a1, a2]) h (xq_v P)) (K : ∀ h' : xm_H, P h' → xm_S g d y (pc + 3, ls, rest) h' Q) : xm_S g d y (pc, ls, a2 :: a1 :: .ref b :: rest) h Q := by
  cases d with
  | zero => exact absurd hdd (Nat.not_lt_zero _)
  | succ d => exact xr_callI (as := [a1, a2]) (rest := rest) hd hm rfl hn.symm (fun v hv => by simp at hv; rcases hv with rfl | rfl <;> assumption) hr (Cz.up (Nat.le_of_lt_succ hdd)) (fun r h' e => by obtain ⟨rfl, e⟩ := e; exact K h' e)
theorem xr_I3v {b : Nat} {a1 a2 a3 : Value} {P : xm_H → Prop} (hd : decode (xt_code y) pc = .ok (.invokespecial i, 3)) (hm : xm_okI (xt_own y) i z) (hn : xt_np z = 3) (c1 : a1.category = 1) (c2 : a2.category = 1) (c3 : a3.category = 1) (hr : (rest.map fun v => v.category).sum ≤ 8) (hdd : d' < d)
    (Cz : xm_S g d' z (xm_entry z [.ref b, a1, a2, a3]) h (xq_v P)) (K : ∀ h' : xm_H, P h' → xm_S g d y (pc + 3, ls, rest) h' Q) : xm_S g d y (pc, ls, a3 :: a2 :: a1 :: .ref b :: rest) h Q := by
  cases d with
  | zero => exact absurd hdd (Nat.not_lt_zero _)
  | succ d => exact xr_callI (as := [a1, a2, a3]) (rest := rest) hd hm rfl hn.symm (fun v hv => by simp at hv; rcases hv with rfl | rfl | rfl <;> assumption) hr (Cz.up (Nat.le_of_lt_succ hdd)) (fun r h' e => by obtain ⟨rfl, e⟩ := e; exact K h' e)
theorem xr_I4v {b : Nat} {a1 a2 a3 a4 : Value} {P : xm_H → Prop} (hd : decode (xt_code y) pc = .ok (.invokespecial i, 3)) (hm : xm_okI (xt_own y) i z) (hn : xt_np z = 4) (c1 : a1.category = 1) (c2 : a2.category = 1) (c3 : a3.category = 1) (c4 : a4.category = 1) (hr : (rest.map fun v => v.category).sum ≤ 8) (hdd : d' < d)
    (Cz : xm_S g d' z (xm_entry z [.ref b, a1, a2, a3, a4]) h (xq_v P)) (K : ∀ h' : xm_H, P h' → xm_S g d y (pc + 3, ls, rest) h' Q) : xm_S g d y (pc, ls, a4 :: a3 :: a2 :: a1 :: .ref b :: rest) h Q := by
  cases d with
  | zero => exact absurd hdd (Nat.not_lt_zero _)
  | succ d => exact xr_callI (as := [a1, a2, a3, a4]) (rest := rest) hd hm rfl hn.symm (fun v hv => by simp at hv; rcases hv with rfl | rfl | rfl | rfl <;> assumption) hr (Cz.up (Nat.le_of_lt_succ hdd)) (fun r h' e => by obtain ⟨rfl, e⟩ := e; exact K h' e)
theorem xr_I5v {b : Nat} {a1 a2 a3 a4 a5 : Value} {P : xm_H → Prop} (hd : decode (xt_code y) pc = .ok (.invokespecial i, 3)) (hm : xm_okI (xt_own y) i z) (hn : xt_np z = 5) (c1 : a1.category = 1) (c2 : a2.category = 1) (c3 : a3.category = 1) (c4 : a4.category = 1) (c5 : a5.category = 1) (hr : (rest.map fun v => v.category).sum ≤ 8) (hdd : d' < d)
    (Cz : xm_S g d' z (xm_entry z [.ref b, a1, a2, a3, a4, a5]) h (xq_v P)) (K : ∀ h' : xm_H, P h' → xm_S g d y (pc + 3, ls, rest) h' Q) : xm_S g d y (pc, ls, a5 :: a4 :: a3 :: a2 :: a1 :: .ref b :: rest) h Q := by
  cases d with
  | zero => exact absurd hdd (Nat.not_lt_zero _)
  | succ d => exact xr_callI (as := [a1, a2, a3, a4, a5]) (rest := rest) hd hm rfl hn.symm (fun v hv => by simp at hv; rcases hv with rfl | rfl | rfl | rfl | rfl <;> assumption) hr (Cz.up (Nat.le_of_lt_succ hdd)) (fun r h' e => by obtain ⟨rfl, e⟩ := e; exact K h' e)
theorem xr_I6v {b : Nat} {a1 a2 a3 a4 a5 a6 : Value} {P : xm_H → Prop} (hd : decode (xt_code y) pc = .ok (.invokespecial i, 3)) (hm : xm_okI (xt_own y) i z) (hn : xt_np z = 6) (c1 : a1.category = 1) (c2 : a2.category = 1) (c3 : a3.category = 1) (c4 : a4.category = 1) (c5 : a5.category = 1) (c6 : a6.category = 1) (hr : (rest.map fun v => v.category).sum ≤ 8) (hdd : d' < d)
    (Cz : xm_S g d' z (xm_entry z [.ref b, a1, a2, a3, a4, a5, a6]) h (xq_v P)) (K : ∀ h' : xm_H, P h' → xm_S g d y (pc + 3, ls, rest) h' Q) : xm_S g d y (pc, ls, a6 :: a5 :: a4 :: a3 :: a2 :: a1 :: .ref b :: rest) h Q := by
  cases d with
  | zero => exact absurd hdd (Nat.not_lt_zero _)
  | succ d => exact xr_callI (as := [a1, a2, a3, a4, a5, a6]) (rest := rest) hd hm rfl hn.symm (fun v hv => by simp at hv; rcases hv with rfl | rfl | rfl | rfl | rfl | rfl <;> assumption) hr (Cz.up (Nat.le_of_lt_succ hdd)) (fun r h' e => by obtain ⟨rfl, e⟩ := e; exact K h' e)
end XCalls
end
section
/-! what the tables say of each field, class and method that an instruction names, by program -/
theorem ok_S_init : xm_okM m_S_init := ⟨by decide +kernel, rfl, xt_in 37 (by decide +kernel) rfl, xt_in 26 (by decide +kernel) rfl, by decide +kernel, by decide⟩
theorem ok_S_job : xm_okM m_S_job := ⟨by decide +kernel, rfl, xt_in 75 (by decide +kernel) rfl, xt_in 26 (by decide +kernel) rfl, by decide +kernel, by decide⟩
theorem ok_Job_init : xm_okM m_Job_init := ⟨by decide +kernel, rfl, xt_in 79 (by decide +kernel) rfl, xt_in 28 (by decide +kernel) rfl, by decide +kernel, by decide⟩
theorem ok_S_needs : xm_okM m_S_needs := ⟨by decide +kernel, rfl, xt_in 110 (by decide +kernel) rfl, xt_in 26 (by decide +kernel) rfl, by decide +kernel, by decide⟩
theorem ok_Job_isNeeding : xm_okM m_Job_isNeeding := ⟨by decide +kernel, rfl, xt_in 114 (by decide +kernel) rfl, xt_in 28 (by decide +kernel) rfl, by decide +kernel, by decide⟩
theorem ok_S_runner : xm_okM m_S_runner := ⟨by decide +kernel, rfl, xt_in 118 (by decide +kernel) rfl, xt_in 26 (by decide +kernel) rfl, by decide +kernel, by decide⟩
theorem ok_Rnr_init : xm_okM m_Rnr_init := ⟨by decide +kernel, rfl, xt_in 122 (by decide +kernel) rfl, xt_in 29 (by decide +kernel) rfl, by decide +kernel, by decide⟩
theorem ok_S_lost : xm_okM m_S_lost := ⟨by decide +kernel, rfl, xt_in 146 (by decide +kernel) rfl, xt_in 26 (by decide +kernel) rfl, by decide +kernel, by decide⟩
theorem ok_S_trigger : xm_okM m_S_trigger := ⟨by decide +kernel, rfl, xt_in 150 (by decide +kernel) rfl, xt_in 26 (by decide +kernel) rfl, by decide +kernel, by decide⟩
theorem ok_S_isPerson : xm_okM m_S_isPerson := ⟨by decide +kernel, rfl, xt_in 153 (by decide +kernel) rfl, xt_in 26 (by decide +kernel) rfl, by decide +kernel, by decide⟩
theorem ok_S_cancelGroup : xm_okM m_S_cancelGroup := ⟨by decide +kernel, rfl, xt_in 157 (by decide +kernel) rfl, xt_in 26 (by decide +kernel) rfl, by decide +kernel, by decide⟩
theorem ok_Run_isOver : xm_okM m_Run_isOver := ⟨by decide +kernel, rfl, xt_in 161 (by decide +kernel) rfl, xt_in 30 (by decide +kernel) rfl, by decide +kernel, by decide⟩
theorem ok_Tsk_isEnded : xm_okM m_Tsk_isEnded := ⟨by decide +kernel, rfl, xt_in 165 (by decide +kernel) rfl, xt_in 31 (by decide +kernel) rfl, by decide +kernel, by decide⟩
theorem ok_Run_cancelAll : xm_okM m_Run_cancelAll := ⟨by decide +kernel, rfl, xt_in 169 (by decide +kernel) rfl, xt_in 30 (by decide +kernel) rfl, by decide +kernel, by decide⟩
theorem ok_Tsk_leaveRunner : xm_okM m_Tsk_leaveRunner := ⟨by decide +kernel, rfl, xt_in 173 (by decide +kernel) rfl, xt_in 31 (by decide +kernel) rfl, by decide +kernel, by decide⟩
theorem ok_S_newRun : xm_okM m_S_newRun := ⟨by decide +kernel, rfl, xt_in 177 (by decide +kernel) rfl, xt_in 26 (by decide +kernel) rfl, by decide +kernel, by decide⟩
theorem ok_Run_init : xm_okM m_Run_init := ⟨by decide +kernel, rfl, xt_in 181 (by decide +kernel) rfl, xt_in 30 (by decide +kernel) rfl, by decide +kernel, by decide⟩
theorem ok_Tsk_init : xm_okM m_Tsk_init := ⟨by decide +kernel, rfl, xt_in 210 (by decide +kernel) rfl, xt_in 31 (by decide +kernel) rfl, by decide +kernel, by decide⟩
theorem ok_S_settle : xm_okM m_S_settle := ⟨by decide +kernel, rfl, xt_in 262 (by decide +kernel) rfl, xt_in 26 (by decide +kernel) rfl, by decide +kernel, by decide⟩
theorem ok_Run_settleTasks : xm_okM m_Run_settleTasks := ⟨by decide +kernel, rfl, xt_in 266 (by decide +kernel) rfl, xt_in 30 (by decide +kernel) rfl, by decide +kernel, by decide⟩
theorem ok_Run_stateAfterWaiting : xm_okM m_Run_stateAfterWaiting := ⟨by decide +kernel, rfl, xt_in 270 (by decide +kernel) rfl, xt_in 30 (by decide +kernel) rfl, by decide +kernel, by decide⟩
theorem ok_Tsk_isFreeToRun : xm_okM m_Tsk_isFreeToRun := ⟨by decide +kernel, rfl, xt_in 275 (by decide +kernel) rfl, xt_in 31 (by decide +kernel) rfl, by decide +kernel, by decide⟩
theorem ok_I_bitCount : xm_okM m_I_bitCount := ⟨by decide +kernel, rfl, xt_in 278 (by decide +kernel) rfl, xt_in 32 (by decide +kernel) rfl, by decide +kernel, by decide⟩
theorem ok_S_approve : xm_okM m_S_approve := ⟨by decide +kernel, rfl, xt_in 285 (by decide +kernel) rfl, xt_in 26 (by decide +kernel) rfl, by decide +kernel, by decide⟩
theorem ok_S_findTask : xm_okM m_S_findTask := ⟨by decide +kernel, rfl, xt_in 289 (by decide +kernel) rfl, xt_in 26 (by decide +kernel) rfl, by decide +kernel, by decide⟩
theorem ok_S_findRun : xm_okM m_S_findRun := ⟨by decide +kernel, rfl, xt_in 293 (by decide +kernel) rfl, xt_in 26 (by decide +kernel) rfl, by decide +kernel, by decide⟩
theorem ok_S_take : xm_okM m_S_take := ⟨by decide +kernel, rfl, xt_in 298 (by decide +kernel) rfl, xt_in 26 (by decide +kernel) rfl, by decide +kernel, by decide⟩
theorem ok_S_findRunner : xm_okM m_S_findRunner := ⟨by decide +kernel, rfl, xt_in 302 (by decide +kernel) rfl, xt_in 26 (by decide +kernel) rfl, by decide +kernel, by decide⟩
theorem ok_S_nextFor : xm_okM m_S_nextFor := ⟨by decide +kernel, rfl, xt_in 306 (by decide +kernel) rfl, xt_in 26 (by decide +kernel) rfl, by decide +kernel, by decide⟩
theorem ok_Run_firstReadyFor : xm_okM m_Run_firstReadyFor := ⟨by decide +kernel, rfl, xt_in 310 (by decide +kernel) rfl, xt_in 30 (by decide +kernel) rfl, by decide +kernel, by decide⟩
theorem ok_S_isServedBefore : xm_okM m_S_isServedBefore := ⟨by decide +kernel, rfl, xt_in 314 (by decide +kernel) rfl, xt_in 26 (by decide +kernel) rfl, by decide +kernel, by decide⟩
theorem ok_S_runningOf : xm_okM m_S_runningOf := ⟨by decide +kernel, rfl, xt_in 318 (by decide +kernel) rfl, xt_in 26 (by decide +kernel) rfl, by decide +kernel, by decide⟩
theorem ok_Tsk_startOn : xm_okM m_Tsk_startOn := ⟨by decide +kernel, rfl, xt_in 322 (by decide +kernel) rfl, xt_in 31 (by decide +kernel) rfl, by decide +kernel, by decide⟩
theorem ok_Tsk_place : xm_okM m_Tsk_place := ⟨by decide +kernel, rfl, xt_in 326 (by decide +kernel) rfl, xt_in 31 (by decide +kernel) rfl, by decide +kernel, by decide⟩
theorem ok_S_beat : xm_okM m_S_beat := ⟨by decide +kernel, rfl, xt_in 330 (by decide +kernel) rfl, xt_in 26 (by decide +kernel) rfl, by decide +kernel, by decide⟩
theorem ok_S_end : xm_okM m_S_end := ⟨by decide +kernel, rfl, xt_in 334 (by decide +kernel) rfl, xt_in 26 (by decide +kernel) rfl, by decide +kernel, by decide⟩
theorem ok_Tsk_finish : xm_okM m_Tsk_finish := ⟨by decide +kernel, rfl, xt_in 338 (by decide +kernel) rfl, xt_in 31 (by decide +kernel) rfl, by decide +kernel, by decide⟩
theorem ok_Tsk_failTry : xm_okM m_Tsk_failTry := ⟨by decide +kernel, rfl, xt_in 343 (by decide +kernel) rfl, xt_in 31 (by decide +kernel) rfl, by decide +kernel, by decide⟩
theorem ok_S_tick : xm_okM m_S_tick := ⟨by decide +kernel, rfl, xt_in 347 (by decide +kernel) rfl, xt_in 26 (by decide +kernel) rfl, by decide +kernel, by decide⟩
theorem ok_S_isAnyRunnerBusy : xm_okM m_S_isAnyRunnerBusy := ⟨by decide +kernel, rfl, xt_in 351 (by decide +kernel) rfl, xt_in 26 (by decide +kernel) rfl, by decide +kernel, by decide⟩
theorem ok_S_checkRunners : xm_okM m_S_checkRunners := ⟨by decide +kernel, rfl, xt_in 355 (by decide +kernel) rfl, xt_in 26 (by decide +kernel) rfl, by decide +kernel, by decide⟩
theorem ok_Tsk_loseRunner : xm_okM m_Tsk_loseRunner := ⟨by decide +kernel, rfl, xt_in 359 (by decide +kernel) rfl, xt_in 31 (by decide +kernel) rfl, by decide +kernel, by decide⟩
theorem ok_Tsk_isPastLimit : xm_okM m_Tsk_isPastLimit := ⟨by decide +kernel, rfl, xt_in 363 (by decide +kernel) rfl, xt_in 31 (by decide +kernel) rfl, by decide +kernel, by decide⟩
theorem ok_S_cancel : xm_okM m_S_cancel := ⟨by decide +kernel, rfl, xt_in 367 (by decide +kernel) rfl, xt_in 26 (by decide +kernel) rfl, by decide +kernel, by decide⟩
theorem ok_S_again : xm_okM m_S_again := ⟨by decide +kernel, rfl, xt_in 371 (by decide +kernel) rfl, xt_in 26 (by decide +kernel) rfl, by decide +kernel, by decide⟩
theorem ok_Run_redoFailed : xm_okM m_Run_redoFailed := ⟨by decide +kernel, rfl, xt_in 375 (by decide +kernel) rfl, xt_in 30 (by decide +kernel) rfl, by decide +kernel, by decide⟩
theorem ok_Tsk_waitAgain : xm_okM m_Tsk_waitAgain := ⟨by decide +kernel, rfl, xt_in 379 (by decide +kernel) rfl, xt_in 31 (by decide +kernel) rfl, by decide +kernel, by decide⟩
theorem ok_S_state : xm_okM m_S_state := ⟨by decide +kernel, rfl, xt_in 383 (by decide +kernel) rfl, xt_in 26 (by decide +kernel) rfl, by decide +kernel, by decide⟩
theorem ok_S_about : xm_okM m_S_about := ⟨by decide +kernel, rfl, xt_in 387 (by decide +kernel) rfl, xt_in 26 (by decide +kernel) rfl, by decide +kernel, by decide⟩
theorem ok_Tsk_runnerNumber : xm_okM m_Tsk_runnerNumber := ⟨by decide +kernel, rfl, xt_in 391 (by decide +kernel) rfl, xt_in 31 (by decide +kernel) rfl, by decide +kernel, by decide⟩
theorem ok_Run_artefactsFor : xm_okM m_Run_artefactsFor := ⟨by decide +kernel, rfl, xt_in 395 (by decide +kernel) rfl, xt_in 30 (by decide +kernel) rfl, by decide +kernel, by decide⟩
theorem ok_S_verdict : xm_okM m_S_verdict := ⟨by decide +kernel, rfl, xt_in 399 (by decide +kernel) rfl, xt_in 26 (by decide +kernel) rfl, by decide +kernel, by decide⟩
theorem ok_Run_judge : xm_okM m_Run_judge := ⟨by decide +kernel, rfl, xt_in 403 (by decide +kernel) rfl, xt_in 30 (by decide +kernel) rfl, by decide +kernel, by decide⟩
theorem ok_Run_isAnyFailed : xm_okM m_Run_isAnyFailed := ⟨by decide +kernel, rfl, xt_in 408 (by decide +kernel) rfl, xt_in 30 (by decide +kernel) rfl, by decide +kernel, by decide⟩
theorem ok_S_has : xm_okM m_S_has := ⟨by decide +kernel, rfl, xt_in 412 (by decide +kernel) rfl, xt_in 26 (by decide +kernel) rfl, by decide +kernel, by decide⟩
theorem ok_M_init : xm_okM m_M_init := ⟨by decide +kernel, rfl, xt_in 417 (by decide +kernel) rfl, xt_in 27 (by decide +kernel) rfl, by decide +kernel, by decide⟩
theorem ok_M_job : xm_okM m_M_job := ⟨by decide +kernel, rfl, xt_in 503 (by decide +kernel) rfl, xt_in 27 (by decide +kernel) rfl, by decide +kernel, by decide⟩
theorem ok_M_needs : xm_okM m_M_needs := ⟨by decide +kernel, rfl, xt_in 507 (by decide +kernel) rfl, xt_in 27 (by decide +kernel) rfl, by decide +kernel, by decide⟩
theorem ok_M_isJob : xm_okM m_M_isJob := ⟨by decide +kernel, rfl, xt_in 511 (by decide +kernel) rfl, xt_in 27 (by decide +kernel) rfl, by decide +kernel, by decide⟩
theorem ok_M_runner : xm_okM m_M_runner := ⟨by decide +kernel, rfl, xt_in 515 (by decide +kernel) rfl, xt_in 27 (by decide +kernel) rfl, by decide +kernel, by decide⟩
theorem ok_M_lost : xm_okM m_M_lost := ⟨by decide +kernel, rfl, xt_in 519 (by decide +kernel) rfl, xt_in 27 (by decide +kernel) rfl, by decide +kernel, by decide⟩
theorem ok_M_trigger : xm_okM m_M_trigger := ⟨by decide +kernel, rfl, xt_in 523 (by decide +kernel) rfl, xt_in 27 (by decide +kernel) rfl, by decide +kernel, by decide⟩
theorem ok_M_isOver : xm_okM m_M_isOver := ⟨by decide +kernel, rfl, xt_in 527 (by decide +kernel) rfl, xt_in 27 (by decide +kernel) rfl, by decide +kernel, by decide⟩
theorem ok_M_isEnd : xm_okM m_M_isEnd := ⟨by decide +kernel, rfl, xt_in 530 (by decide +kernel) rfl, xt_in 27 (by decide +kernel) rfl, by decide +kernel, by decide⟩
theorem ok_M_stop : xm_okM m_M_stop := ⟨by decide +kernel, rfl, xt_in 534 (by decide +kernel) rfl, xt_in 27 (by decide +kernel) rfl, by decide +kernel, by decide⟩
theorem ok_M_free : xm_okM m_M_free := ⟨by decide +kernel, rfl, xt_in 538 (by decide +kernel) rfl, xt_in 27 (by decide +kernel) rfl, by decide +kernel, by decide⟩
theorem ok_M_settle : xm_okM m_M_settle := ⟨by decide +kernel, rfl, xt_in 542 (by decide +kernel) rfl, xt_in 27 (by decide +kernel) rfl, by decide +kernel, by decide⟩
theorem ok_M_becomes : xm_okM m_M_becomes := ⟨by decide +kernel, rfl, xt_in 546 (by decide +kernel) rfl, xt_in 27 (by decide +kernel) rfl, by decide +kernel, by decide⟩
theorem ok_M_isApproved : xm_okM m_M_isApproved := ⟨by decide +kernel, rfl, xt_in 550 (by decide +kernel) rfl, xt_in 27 (by decide +kernel) rfl, by decide +kernel, by decide⟩
theorem ok_M_approve : xm_okM m_M_approve := ⟨by decide +kernel, rfl, xt_in 554 (by decide +kernel) rfl, xt_in 27 (by decide +kernel) rfl, by decide +kernel, by decide⟩
theorem ok_M_isThere : xm_okM m_M_isThere := ⟨by decide +kernel, rfl, xt_in 558 (by decide +kernel) rfl, xt_in 27 (by decide +kernel) rfl, by decide +kernel, by decide⟩
theorem ok_M_isRun : xm_okM m_M_isRun := ⟨by decide +kernel, rfl, xt_in 562 (by decide +kernel) rfl, xt_in 27 (by decide +kernel) rfl, by decide +kernel, by decide⟩
theorem ok_M_take : xm_okM m_M_take := ⟨by decide +kernel, rfl, xt_in 566 (by decide +kernel) rfl, xt_in 27 (by decide +kernel) rfl, by decide +kernel, by decide⟩
theorem ok_M_isRunner : xm_okM m_M_isRunner := ⟨by decide +kernel, rfl, xt_in 570 (by decide +kernel) rfl, xt_in 27 (by decide +kernel) rfl, by decide +kernel, by decide⟩
theorem ok_M_busy : xm_okM m_M_busy := ⟨by decide +kernel, rfl, xt_in 574 (by decide +kernel) rfl, xt_in 27 (by decide +kernel) rfl, by decide +kernel, by decide⟩
theorem ok_M_beat : xm_okM m_M_beat := ⟨by decide +kernel, rfl, xt_in 578 (by decide +kernel) rfl, xt_in 27 (by decide +kernel) rfl, by decide +kernel, by decide⟩
theorem ok_M_end : xm_okM m_M_end := ⟨by decide +kernel, rfl, xt_in 582 (by decide +kernel) rfl, xt_in 27 (by decide +kernel) rfl, by decide +kernel, by decide⟩
theorem ok_M_failTry : xm_okM m_M_failTry := ⟨by decide +kernel, rfl, xt_in 586 (by decide +kernel) rfl, xt_in 27 (by decide +kernel) rfl, by decide +kernel, by decide⟩
theorem ok_M_tick : xm_okM m_M_tick := ⟨by decide +kernel, rfl, xt_in 590 (by decide +kernel) rfl, xt_in 27 (by decide +kernel) rfl, by decide +kernel, by decide⟩
theorem ok_M_pass : xm_okM m_M_pass := ⟨by decide +kernel, rfl, xt_in 594 (by decide +kernel) rfl, xt_in 27 (by decide +kernel) rfl, by decide +kernel, by decide⟩
theorem ok_M_runnerOf : xm_okM m_M_runnerOf := ⟨by decide +kernel, rfl, xt_in 598 (by decide +kernel) rfl, xt_in 27 (by decide +kernel) rfl, by decide +kernel, by decide⟩
theorem ok_M_cancel : xm_okM m_M_cancel := ⟨by decide +kernel, rfl, xt_in 602 (by decide +kernel) rfl, xt_in 27 (by decide +kernel) rfl, by decide +kernel, by decide⟩
theorem ok_M_again : xm_okM m_M_again := ⟨by decide +kernel, rfl, xt_in 606 (by decide +kernel) rfl, xt_in 27 (by decide +kernel) rfl, by decide +kernel, by decide⟩
theorem ok_M_state : xm_okM m_M_state := ⟨by decide +kernel, rfl, xt_in 610 (by decide +kernel) rfl, xt_in 27 (by decide +kernel) rfl, by decide +kernel, by decide⟩
theorem ok_M_about : xm_okM m_M_about := ⟨by decide +kernel, rfl, xt_in 614 (by decide +kernel) rfl, xt_in 27 (by decide +kernel) rfl, by decide +kernel, by decide⟩
theorem ok_M_verdict : xm_okM m_M_verdict := ⟨by decide +kernel, rfl, xt_in 618 (by decide +kernel) rfl, xt_in 27 (by decide +kernel) rfl, by decide +kernel, by decide⟩
theorem ok_M_has : xm_okM m_M_has := ⟨by decide +kernel, rfl, xt_in 622 (by decide +kernel) rfl, xt_in 27 (by decide +kernel) rfl, by decide +kernel, by decide⟩
theorem xc_6_7 : xm_okN 6 7 4 := ⟨_, _, _, rfl, xt_in 33 (by decide +kernel) rfl⟩
theorem xi_6_9 : xm_okI 6 9 m_S_init := ⟨ok_S_init, xt_in 35 (by decide +kernel) rfl, xt_in 36 (by decide +kernel) rfl, rfl, rfl, by decide⟩
theorem xo_4_1 : xm_okO 4 1 := ⟨xt_in 38 (by decide +kernel) rfl, xt_in 39 (by decide +kernel) rfl, xt_in 40 (by decide +kernel) rfl⟩
theorem xc_4_9 : xm_okN 4 9 0 := ⟨_, _, _, rfl, xt_in 41 (by decide +kernel) rfl⟩
theorem xa_4_9 : xm_okA 4 9 2 := ⟨_, rfl, xt_in 41 (by decide +kernel) rfl⟩
theorem xc_4_15 : xm_okN 4 15 2 := ⟨_, _, _, rfl, xt_in 43 (by decide +kernel) rfl⟩
theorem xa_4_15 : xm_okA 4 15 3 := ⟨_, rfl, xt_in 43 (by decide +kernel) rfl⟩
theorem xc_4_21 : xm_okN 4 21 1 := ⟨_, _, _, rfl, xt_in 45 (by decide +kernel) rfl⟩
theorem xa_4_21 : xm_okA 4 21 4 := ⟨_, rfl, xt_in 45 (by decide +kernel) rfl⟩
theorem xf_4_11 : xm_okF 4 11 4 0 := ⟨_, _, _, rfl, by decide, xt_in 47 (by decide +kernel) rfl⟩
theorem xf_4_17 : xm_okF 4 17 4 1 := ⟨_, _, _, rfl, by decide, xt_in 48 (by decide +kernel) rfl⟩
theorem xf_4_23 : xm_okF 4 23 4 2 := ⟨_, _, _, rfl, by decide, xt_in 49 (by decide +kernel) rfl⟩
theorem xf_4_27 : xm_okF 4 27 4 3 := ⟨_, _, _, rfl, by decide, xt_in 50 (by decide +kernel) rfl⟩
theorem xf_4_31 : xm_okF 4 31 4 4 := ⟨_, _, _, rfl, by decide, xt_in 51 (by decide +kernel) rfl⟩
theorem xf_4_34 : xm_okF 4 34 4 5 := ⟨_, _, _, rfl, by decide, xt_in 52 (by decide +kernel) rfl⟩
theorem xf_4_37 : xm_okF 4 37 4 6 := ⟨_, _, _, rfl, by decide, xt_in 53 (by decide +kernel) rfl⟩
theorem xf_4_40 : xm_okF 4 40 4 7 := ⟨_, _, _, rfl, by decide, xt_in 54 (by decide +kernel) rfl⟩
theorem xv_6_13 : xm_okV 6 13 m_S_job := ⟨ok_S_job, xt_in 72 (by decide +kernel) rfl, xt_in 73 (by decide +kernel) rfl, xt_in 74 (by decide +kernel) rfl, by decide, _, _, rfl⟩
theorem xi_4_43 : xm_okI 4 43 m_Job_init := ⟨ok_Job_init, xt_in 77 (by decide +kernel) rfl, xt_in 78 (by decide +kernel) rfl, rfl, rfl, by decide⟩
theorem xo_0_1 : xm_okO 0 1 := ⟨xt_in 80 (by decide +kernel) rfl, xt_in 39 (by decide +kernel) rfl, xt_in 40 (by decide +kernel) rfl⟩
theorem xf_0_13 : xm_okF 0 13 0 0 := ⟨_, _, _, rfl, by decide, xt_in 81 (by decide +kernel) rfl⟩
theorem xf_1_70 : xm_okF 1 70 0 0 := ⟨_, _, _, rfl, by decide, xt_in 82 (by decide +kernel) rfl⟩
theorem xf_0_16 : xm_okF 0 16 0 1 := ⟨_, _, _, rfl, by decide, xt_in 83 (by decide +kernel) rfl⟩
theorem xf_3_66 : xm_okF 3 66 0 1 := ⟨_, _, _, rfl, by decide, xt_in 84 (by decide +kernel) rfl⟩
theorem xf_0_19 : xm_okF 0 19 0 2 := ⟨_, _, _, rfl, by decide, xt_in 85 (by decide +kernel) rfl⟩
theorem xf_3_82 : xm_okF 3 82 0 2 := ⟨_, _, _, rfl, by decide, xt_in 86 (by decide +kernel) rfl⟩
theorem xf_0_22 : xm_okF 0 22 0 3 := ⟨_, _, _, rfl, by decide, xt_in 87 (by decide +kernel) rfl⟩
theorem xf_1_48 : xm_okF 1 48 0 3 := ⟨_, _, _, rfl, by decide, xt_in 88 (by decide +kernel) rfl⟩
theorem xf_0_26 : xm_okF 0 26 0 4 := ⟨_, _, _, rfl, by decide, xt_in 89 (by decide +kernel) rfl⟩
theorem xf_3_55 : xm_okF 3 55 0 4 := ⟨_, _, _, rfl, by decide, xt_in 90 (by decide +kernel) rfl⟩
theorem xf_4_80 : xm_okF 4 80 0 4 := ⟨_, _, _, rfl, by decide, xt_in 91 (by decide +kernel) rfl⟩
theorem xf_0_7 : xm_okF 0 7 0 5 := ⟨_, _, _, rfl, by decide, xt_in 92 (by decide +kernel) rfl⟩
theorem xf_4_50 : xm_okF 4 50 0 5 := ⟨_, _, _, rfl, by decide, xt_in 93 (by decide +kernel) rfl⟩
theorem xv_6_18 : xm_okV 6 18 m_S_needs := ⟨ok_S_needs, xt_in 107 (by decide +kernel) rfl, xt_in 108 (by decide +kernel) rfl, xt_in 109 (by decide +kernel) rfl, by decide, _, _, rfl⟩
theorem xv_4_46 : xm_okV 4 46 m_Job_isNeeding := ⟨ok_Job_isNeeding, xt_in 111 (by decide +kernel) rfl, xt_in 112 (by decide +kernel) rfl, xt_in 113 (by decide +kernel) rfl, by decide, _, _, rfl⟩
theorem xv_6_23 : xm_okV 6 23 m_S_runner := ⟨ok_S_runner, xt_in 115 (by decide +kernel) rfl, xt_in 116 (by decide +kernel) rfl, xt_in 117 (by decide +kernel) rfl, by decide, _, _, rfl⟩
theorem xi_4_53 : xm_okI 4 53 m_Rnr_init := ⟨ok_Rnr_init, xt_in 120 (by decide +kernel) rfl, xt_in 121 (by decide +kernel) rfl, rfl, rfl, by decide⟩
theorem xo_2_1 : xm_okO 2 1 := ⟨xt_in 123 (by decide +kernel) rfl, xt_in 39 (by decide +kernel) rfl, xt_in 40 (by decide +kernel) rfl⟩
theorem xf_2_13 : xm_okF 2 13 2 0 := ⟨_, _, _, rfl, by decide, xt_in 124 (by decide +kernel) rfl⟩
theorem xf_3_69 : xm_okF 3 69 2 0 := ⟨_, _, _, rfl, by decide, xt_in 125 (by decide +kernel) rfl⟩
theorem xf_2_17 : xm_okF 2 17 2 1 := ⟨_, _, _, rfl, by decide, xt_in 126 (by decide +kernel) rfl⟩
theorem xf_1_73 : xm_okF 1 73 2 1 := ⟨_, _, _, rfl, by decide, xt_in 127 (by decide +kernel) rfl⟩
theorem xf_2_20 : xm_okF 2 20 2 2 := ⟨_, _, _, rfl, by decide, xt_in 128 (by decide +kernel) rfl⟩
theorem xf_3_76 : xm_okF 3 76 2 2 := ⟨_, _, _, rfl, by decide, xt_in 129 (by decide +kernel) rfl⟩
theorem xf_4_118 : xm_okF 4 118 2 2 := ⟨_, _, _, rfl, by decide, xt_in 130 (by decide +kernel) rfl⟩
theorem xf_2_7 : xm_okF 2 7 2 3 := ⟨_, _, _, rfl, by decide, xt_in 131 (by decide +kernel) rfl⟩
theorem xf_3_72 : xm_okF 3 72 2 3 := ⟨_, _, _, rfl, by decide, xt_in 132 (by decide +kernel) rfl⟩
theorem xf_4_102 : xm_okF 4 102 2 3 := ⟨_, _, _, rfl, by decide, xt_in 133 (by decide +kernel) rfl⟩
theorem xv_6_28 : xm_okV 6 28 m_S_lost := ⟨ok_S_lost, xt_in 143 (by decide +kernel) rfl, xt_in 144 (by decide +kernel) rfl, xt_in 145 (by decide +kernel) rfl, by decide, _, _, rfl⟩
theorem xv_6_33 : xm_okV 6 33 m_S_trigger := ⟨ok_S_trigger, xt_in 147 (by decide +kernel) rfl, xt_in 148 (by decide +kernel) rfl, xt_in 149 (by decide +kernel) rfl, by decide, _, _, rfl⟩
theorem xs_4_56 : xm_okS 4 56 m_S_isPerson := ⟨ok_S_isPerson, xt_in 151 (by decide +kernel) rfl, xt_in 152 (by decide +kernel) rfl, by decide⟩
theorem xv_4_59 : xm_okV 4 59 m_S_cancelGroup := ⟨ok_S_cancelGroup, xt_in 154 (by decide +kernel) rfl, xt_in 156 (by decide +kernel) rfl, xt_in 0 (by decide +kernel) rfl, by decide, _, _, rfl⟩
theorem xv_4_140 : xm_okV 4 140 m_Run_isOver := ⟨ok_Run_isOver, xt_in 158 (by decide +kernel) rfl, xt_in 159 (by decide +kernel) rfl, xt_in 160 (by decide +kernel) rfl, by decide, _, _, rfl⟩
theorem xv_1_31 : xm_okV 1 31 m_Tsk_isEnded := ⟨ok_Tsk_isEnded, xt_in 162 (by decide +kernel) rfl, xt_in 163 (by decide +kernel) rfl, xt_in 164 (by decide +kernel) rfl, by decide, _, _, rfl⟩
theorem xv_4_143 : xm_okV 4 143 m_Run_cancelAll := ⟨ok_Run_cancelAll, xt_in 166 (by decide +kernel) rfl, xt_in 167 (by decide +kernel) rfl, xt_in 168 (by decide +kernel) rfl, by decide, _, _, rfl⟩
theorem xv_1_53 : xm_okV 1 53 m_Tsk_leaveRunner := ⟨ok_Tsk_leaveRunner, xt_in 170 (by decide +kernel) rfl, xt_in 171 (by decide +kernel) rfl, xt_in 172 (by decide +kernel) rfl, by decide, _, _, rfl⟩
theorem xv_4_63 : xm_okV 4 63 m_S_newRun := ⟨ok_S_newRun, xt_in 174 (by decide +kernel) rfl, xt_in 176 (by decide +kernel) rfl, xt_in 1 (by decide +kernel) rfl, by decide, _, _, rfl⟩
theorem xi_4_175 : xm_okI 4 175 m_Run_init := ⟨ok_Run_init, xt_in 179 (by decide +kernel) rfl, xt_in 180 (by decide +kernel) rfl, rfl, rfl, by decide⟩
theorem xo_1_3 : xm_okO 1 3 := ⟨xt_in 182 (by decide +kernel) rfl, xt_in 39 (by decide +kernel) rfl, xt_in 40 (by decide +kernel) rfl⟩
theorem xc_1_25 : xm_okN 1 25 3 := ⟨_, _, _, rfl, xt_in 183 (by decide +kernel) rfl⟩
theorem xa_1_25 : xm_okA 1 25 5 := ⟨_, rfl, xt_in 183 (by decide +kernel) rfl⟩
theorem xf_1_15 : xm_okF 1 15 1 0 := ⟨_, _, _, rfl, by decide, xt_in 185 (by decide +kernel) rfl⟩
theorem xf_3_52 : xm_okF 3 52 1 0 := ⟨_, _, _, rfl, by decide, xt_in 186 (by decide +kernel) rfl⟩
theorem xf_1_19 : xm_okF 1 19 1 1 := ⟨_, _, _, rfl, by decide, xt_in 187 (by decide +kernel) rfl⟩
theorem xf_4_92 : xm_okF 4 92 1 1 := ⟨_, _, _, rfl, by decide, xt_in 188 (by decide +kernel) rfl⟩
theorem xf_1_22 : xm_okF 1 22 1 2 := ⟨_, _, _, rfl, by decide, xt_in 189 (by decide +kernel) rfl⟩
theorem xf_4_181 : xm_okF 4 181 1 2 := ⟨_, _, _, rfl, by decide, xt_in 190 (by decide +kernel) rfl⟩
theorem xf_1_27 : xm_okF 1 27 1 3 := ⟨_, _, _, rfl, by decide, xt_in 191 (by decide +kernel) rfl⟩
theorem xf_4_171 : xm_okF 4 171 1 3 := ⟨_, _, _, rfl, by decide, xt_in 192 (by decide +kernel) rfl⟩
theorem xf_1_9 : xm_okF 1 9 1 4 := ⟨_, _, _, rfl, by decide, xt_in 193 (by decide +kernel) rfl⟩
theorem xf_4_137 : xm_okF 4 137 1 4 := ⟨_, _, _, rfl, by decide, xt_in 194 (by decide +kernel) rfl⟩
theorem xc_4_75 : xm_okN 4 75 3 := ⟨_, _, _, rfl, xt_in 206 (by decide +kernel) rfl⟩
theorem xa_4_75 : xm_okA 4 75 5 := ⟨_, rfl, xt_in 206 (by decide +kernel) rfl⟩
theorem xi_4_178 : xm_okI 4 178 m_Tsk_init := ⟨ok_Tsk_init, xt_in 208 (by decide +kernel) rfl, xt_in 209 (by decide +kernel) rfl, rfl, rfl, by decide⟩
theorem xo_3_3 : xm_okO 3 3 := ⟨xt_in 211 (by decide +kernel) rfl, xt_in 39 (by decide +kernel) rfl, xt_in 40 (by decide +kernel) rfl⟩
theorem xf_3_41 : xm_okF 3 41 3 0 := ⟨_, _, _, rfl, by decide, xt_in 212 (by decide +kernel) rfl⟩
theorem xf_4_88 : xm_okF 4 88 3 0 := ⟨_, _, _, rfl, by decide, xt_in 213 (by decide +kernel) rfl⟩
theorem xf_3_45 : xm_okF 3 45 3 1 := ⟨_, _, _, rfl, by decide, xt_in 214 (by decide +kernel) rfl⟩
theorem xf_3_48 : xm_okF 3 48 3 2 := ⟨_, _, _, rfl, by decide, xt_in 215 (by decide +kernel) rfl⟩
theorem xf_1_44 : xm_okF 1 44 3 2 := ⟨_, _, _, rfl, by decide, xt_in 216 (by decide +kernel) rfl⟩
theorem xf_4_74 : xm_okF 4 74 3 2 := ⟨_, _, _, rfl, by decide, xt_in 217 (by decide +kernel) rfl⟩
theorem xf_3_9 : xm_okF 3 9 3 3 := ⟨_, _, _, rfl, by decide, xt_in 218 (by decide +kernel) rfl⟩
theorem xf_1_35 : xm_okF 1 35 3 3 := ⟨_, _, _, rfl, by decide, xt_in 219 (by decide +kernel) rfl⟩
theorem xf_4_149 : xm_okF 4 149 3 3 := ⟨_, _, _, rfl, by decide, xt_in 220 (by decide +kernel) rfl⟩
theorem xf_3_15 : xm_okF 3 15 3 4 := ⟨_, _, _, rfl, by decide, xt_in 221 (by decide +kernel) rfl⟩
theorem xf_3_19 : xm_okF 3 19 3 5 := ⟨_, _, _, rfl, by decide, xt_in 222 (by decide +kernel) rfl⟩
theorem xf_3_22 : xm_okF 3 22 3 6 := ⟨_, _, _, rfl, by decide, xt_in 223 (by decide +kernel) rfl⟩
theorem xf_4_95 : xm_okF 4 95 3 6 := ⟨_, _, _, rfl, by decide, xt_in 224 (by decide +kernel) rfl⟩
theorem xf_3_25 : xm_okF 3 25 3 7 := ⟨_, _, _, rfl, by decide, xt_in 225 (by decide +kernel) rfl⟩
theorem xf_1_76 : xm_okF 1 76 3 7 := ⟨_, _, _, rfl, by decide, xt_in 226 (by decide +kernel) rfl⟩
theorem xf_4_161 : xm_okF 4 161 3 7 := ⟨_, _, _, rfl, by decide, xt_in 227 (by decide +kernel) rfl⟩
theorem xf_3_28 : xm_okF 3 28 3 8 := ⟨_, _, _, rfl, by decide, xt_in 228 (by decide +kernel) rfl⟩
theorem xf_4_155 : xm_okF 4 155 3 8 := ⟨_, _, _, rfl, by decide, xt_in 229 (by decide +kernel) rfl⟩
theorem xf_3_31 : xm_okF 3 31 3 9 := ⟨_, _, _, rfl, by decide, xt_in 230 (by decide +kernel) rfl⟩
theorem xf_4_158 : xm_okF 4 158 3 9 := ⟨_, _, _, rfl, by decide, xt_in 231 (by decide +kernel) rfl⟩
theorem xf_3_34 : xm_okF 3 34 3 10 := ⟨_, _, _, rfl, by decide, xt_in 232 (by decide +kernel) rfl⟩
theorem xf_3_37 : xm_okF 3 37 3 11 := ⟨_, _, _, rfl, by decide, xt_in 233 (by decide +kernel) rfl⟩
theorem xv_4_67 : xm_okV 4 67 m_S_settle := ⟨ok_S_settle, xt_in 259 (by decide +kernel) rfl, xt_in 261 (by decide +kernel) rfl, xt_in 2 (by decide +kernel) rfl, by decide, _, _, rfl⟩
theorem xv_4_184 : xm_okV 4 184 m_Run_settleTasks := ⟨ok_Run_settleTasks, xt_in 263 (by decide +kernel) rfl, xt_in 264 (by decide +kernel) rfl, xt_in 265 (by decide +kernel) rfl, by decide, _, _, rfl⟩
theorem xv_1_59 : xm_okV 1 59 m_Run_stateAfterWaiting := ⟨ok_Run_stateAfterWaiting, xt_in 267 (by decide +kernel) rfl, xt_in 268 (by decide +kernel) rfl, xt_in 269 (by decide +kernel) rfl, by decide, _, _, rfl⟩
theorem xv_1_63 : xm_okV 1 63 m_Job_isNeeding := ⟨ok_Job_isNeeding, xt_in 271 (by decide +kernel) rfl, xt_in 112 (by decide +kernel) rfl, xt_in 113 (by decide +kernel) rfl, by decide, _, _, rfl⟩
theorem xv_1_67 : xm_okV 1 67 m_Tsk_isFreeToRun := ⟨ok_Tsk_isFreeToRun, xt_in 272 (by decide +kernel) rfl, xt_in 273 (by decide +kernel) rfl, xt_in 274 (by decide +kernel) rfl, by decide, _, _, rfl⟩
theorem xs_3_60 : xm_okS 3 60 m_I_bitCount := ⟨ok_I_bitCount, xt_in 276 (by decide +kernel) rfl, xt_in 277 (by decide +kernel) rfl, by decide⟩
theorem xl_7_265 : xm_okL 7 265 1431655765 := xt_in 279 (by decide +kernel) rfl
theorem xl_7_266 : xm_okL 7 266 858993459 := xt_in 280 (by decide +kernel) rfl
theorem xl_7_267 : xm_okL 7 267 252645135 := xt_in 281 (by decide +kernel) rfl
theorem xv_6_38 : xm_okV 6 38 m_S_approve := ⟨ok_S_approve, xt_in 282 (by decide +kernel) rfl, xt_in 283 (by decide +kernel) rfl, xt_in 284 (by decide +kernel) rfl, by decide, _, _, rfl⟩
theorem xv_4_70 : xm_okV 4 70 m_S_findTask := ⟨ok_S_findTask, xt_in 286 (by decide +kernel) rfl, xt_in 288 (by decide +kernel) rfl, xt_in 3 (by decide +kernel) rfl, by decide, _, _, rfl⟩
theorem xv_4_133 : xm_okV 4 133 m_S_findRun := ⟨ok_S_findRun, xt_in 290 (by decide +kernel) rfl, xt_in 292 (by decide +kernel) rfl, xt_in 4 (by decide +kernel) rfl, by decide, _, _, rfl⟩
theorem xv_4_84 : xm_okV 4 84 m_Tsk_isEnded := ⟨ok_Tsk_isEnded, xt_in 294 (by decide +kernel) rfl, xt_in 163 (by decide +kernel) rfl, xt_in 164 (by decide +kernel) rfl, by decide, _, _, rfl⟩
theorem xv_6_43 : xm_okV 6 43 m_S_take := ⟨ok_S_take, xt_in 295 (by decide +kernel) rfl, xt_in 296 (by decide +kernel) rfl, xt_in 297 (by decide +kernel) rfl, by decide, _, _, rfl⟩
theorem xv_4_98 : xm_okV 4 98 m_S_findRunner := ⟨ok_S_findRunner, xt_in 299 (by decide +kernel) rfl, xt_in 301 (by decide +kernel) rfl, xt_in 5 (by decide +kernel) rfl, by decide, _, _, rfl⟩
theorem xv_4_106 : xm_okV 4 106 m_S_nextFor := ⟨ok_S_nextFor, xt_in 303 (by decide +kernel) rfl, xt_in 305 (by decide +kernel) rfl, xt_in 6 (by decide +kernel) rfl, by decide, _, _, rfl⟩
theorem xv_4_187 : xm_okV 4 187 m_Run_firstReadyFor := ⟨ok_Run_firstReadyFor, xt_in 307 (by decide +kernel) rfl, xt_in 308 (by decide +kernel) rfl, xt_in 309 (by decide +kernel) rfl, by decide, _, _, rfl⟩
theorem xv_4_190 : xm_okV 4 190 m_S_isServedBefore := ⟨ok_S_isServedBefore, xt_in 311 (by decide +kernel) rfl, xt_in 313 (by decide +kernel) rfl, xt_in 7 (by decide +kernel) rfl, by decide, _, _, rfl⟩
theorem xv_4_194 : xm_okV 4 194 m_S_runningOf := ⟨ok_S_runningOf, xt_in 315 (by decide +kernel) rfl, xt_in 317 (by decide +kernel) rfl, xt_in 8 (by decide +kernel) rfl, by decide, _, _, rfl⟩
theorem xv_4_110 : xm_okV 4 110 m_Tsk_startOn := ⟨ok_Tsk_startOn, xt_in 319 (by decide +kernel) rfl, xt_in 320 (by decide +kernel) rfl, xt_in 321 (by decide +kernel) rfl, by decide, _, _, rfl⟩
theorem xv_4_114 : xm_okV 4 114 m_Tsk_place := ⟨ok_Tsk_place, xt_in 323 (by decide +kernel) rfl, xt_in 324 (by decide +kernel) rfl, xt_in 325 (by decide +kernel) rfl, by decide, _, _, rfl⟩
theorem xv_6_47 : xm_okV 6 47 m_S_beat := ⟨ok_S_beat, xt_in 327 (by decide +kernel) rfl, xt_in 328 (by decide +kernel) rfl, xt_in 329 (by decide +kernel) rfl, by decide, _, _, rfl⟩
theorem xv_6_51 : xm_okV 6 51 m_S_end := ⟨ok_S_end, xt_in 331 (by decide +kernel) rfl, xt_in 332 (by decide +kernel) rfl, xt_in 333 (by decide +kernel) rfl, by decide, _, _, rfl⟩
theorem xv_4_121 : xm_okV 4 121 m_Tsk_finish := ⟨ok_Tsk_finish, xt_in 335 (by decide +kernel) rfl, xt_in 336 (by decide +kernel) rfl, xt_in 337 (by decide +kernel) rfl, by decide, _, _, rfl⟩
theorem xv_3_79 : xm_okV 3 79 m_Tsk_leaveRunner := ⟨ok_Tsk_leaveRunner, xt_in 339 (by decide +kernel) rfl, xt_in 171 (by decide +kernel) rfl, xt_in 172 (by decide +kernel) rfl, by decide, _, _, rfl⟩
theorem xv_4_124 : xm_okV 4 124 m_Tsk_failTry := ⟨ok_Tsk_failTry, xt_in 340 (by decide +kernel) rfl, xt_in 341 (by decide +kernel) rfl, xt_in 342 (by decide +kernel) rfl, by decide, _, _, rfl⟩
theorem xv_6_56 : xm_okV 6 56 m_S_tick := ⟨ok_S_tick, xt_in 344 (by decide +kernel) rfl, xt_in 345 (by decide +kernel) rfl, xt_in 346 (by decide +kernel) rfl, by decide, _, _, rfl⟩
theorem xv_4_127 : xm_okV 4 127 m_S_isAnyRunnerBusy := ⟨ok_S_isAnyRunnerBusy, xt_in 348 (by decide +kernel) rfl, xt_in 350 (by decide +kernel) rfl, xt_in 9 (by decide +kernel) rfl, by decide, _, _, rfl⟩
theorem xv_4_130 : xm_okV 4 130 m_S_checkRunners := ⟨ok_S_checkRunners, xt_in 352 (by decide +kernel) rfl, xt_in 354 (by decide +kernel) rfl, xt_in 10 (by decide +kernel) rfl, by decide, _, _, rfl⟩
theorem xv_4_198 : xm_okV 4 198 m_Tsk_loseRunner := ⟨ok_Tsk_loseRunner, xt_in 356 (by decide +kernel) rfl, xt_in 357 (by decide +kernel) rfl, xt_in 358 (by decide +kernel) rfl, by decide, _, _, rfl⟩
theorem xv_4_201 : xm_okV 4 201 m_Tsk_isPastLimit := ⟨ok_Tsk_isPastLimit, xt_in 360 (by decide +kernel) rfl, xt_in 361 (by decide +kernel) rfl, xt_in 362 (by decide +kernel) rfl, by decide, _, _, rfl⟩
theorem xv_6_60 : xm_okV 6 60 m_S_cancel := ⟨ok_S_cancel, xt_in 364 (by decide +kernel) rfl, xt_in 365 (by decide +kernel) rfl, xt_in 366 (by decide +kernel) rfl, by decide, _, _, rfl⟩
theorem xv_6_64 : xm_okV 6 64 m_S_again := ⟨ok_S_again, xt_in 368 (by decide +kernel) rfl, xt_in 369 (by decide +kernel) rfl, xt_in 370 (by decide +kernel) rfl, by decide, _, _, rfl⟩
theorem xv_4_146 : xm_okV 4 146 m_Run_redoFailed := ⟨ok_Run_redoFailed, xt_in 372 (by decide +kernel) rfl, xt_in 373 (by decide +kernel) rfl, xt_in 374 (by decide +kernel) rfl, by decide, _, _, rfl⟩
theorem xv_1_56 : xm_okV 1 56 m_Tsk_waitAgain := ⟨ok_Tsk_waitAgain, xt_in 376 (by decide +kernel) rfl, xt_in 377 (by decide +kernel) rfl, xt_in 378 (by decide +kernel) rfl, by decide, _, _, rfl⟩
theorem xv_6_68 : xm_okV 6 68 m_S_state := ⟨ok_S_state, xt_in 380 (by decide +kernel) rfl, xt_in 381 (by decide +kernel) rfl, xt_in 382 (by decide +kernel) rfl, by decide, _, _, rfl⟩
theorem xv_6_72 : xm_okV 6 72 m_S_about := ⟨ok_S_about, xt_in 384 (by decide +kernel) rfl, xt_in 385 (by decide +kernel) rfl, xt_in 386 (by decide +kernel) rfl, by decide, _, _, rfl⟩
theorem xv_4_152 : xm_okV 4 152 m_Tsk_runnerNumber := ⟨ok_Tsk_runnerNumber, xt_in 388 (by decide +kernel) rfl, xt_in 389 (by decide +kernel) rfl, xt_in 390 (by decide +kernel) rfl, by decide, _, _, rfl⟩
theorem xv_4_164 : xm_okV 4 164 m_Run_artefactsFor := ⟨ok_Run_artefactsFor, xt_in 392 (by decide +kernel) rfl, xt_in 393 (by decide +kernel) rfl, xt_in 394 (by decide +kernel) rfl, by decide, _, _, rfl⟩
theorem xv_6_76 : xm_okV 6 76 m_S_verdict := ⟨ok_S_verdict, xt_in 396 (by decide +kernel) rfl, xt_in 397 (by decide +kernel) rfl, xt_in 398 (by decide +kernel) rfl, by decide, _, _, rfl⟩
theorem xv_4_168 : xm_okV 4 168 m_Run_judge := ⟨ok_Run_judge, xt_in 400 (by decide +kernel) rfl, xt_in 401 (by decide +kernel) rfl, xt_in 402 (by decide +kernel) rfl, by decide, _, _, rfl⟩
theorem xv_1_38 : xm_okV 1 38 m_Run_isOver := ⟨ok_Run_isOver, xt_in 404 (by decide +kernel) rfl, xt_in 159 (by decide +kernel) rfl, xt_in 160 (by decide +kernel) rfl, by decide, _, _, rfl⟩
theorem xv_1_41 : xm_okV 1 41 m_Run_isAnyFailed := ⟨ok_Run_isAnyFailed, xt_in 405 (by decide +kernel) rfl, xt_in 406 (by decide +kernel) rfl, xt_in 407 (by decide +kernel) rfl, by decide, _, _, rfl⟩
theorem xv_6_80 : xm_okV 6 80 m_S_has := ⟨ok_S_has, xt_in 409 (by decide +kernel) rfl, xt_in 410 (by decide +kernel) rfl, xt_in 411 (by decide +kernel) rfl, by decide, _, _, rfl⟩
theorem xc_6_10 : xm_okN 6 10 5 := ⟨_, _, _, rfl, xt_in 413 (by decide +kernel) rfl⟩
theorem xi_6_12 : xm_okI 6 12 m_M_init := ⟨ok_M_init, xt_in 415 (by decide +kernel) rfl, xt_in 416 (by decide +kernel) rfl, rfl, rfl, by decide⟩
theorem xo_5_1 : xm_okO 5 1 := ⟨xt_in 418 (by decide +kernel) rfl, xt_in 39 (by decide +kernel) rfl, xt_in 40 (by decide +kernel) rfl⟩
theorem xf_5_75 : xm_okF 5 75 5 0 := ⟨_, _, _, rfl, by decide, xt_in 419 (by decide +kernel) rfl⟩
theorem xf_5_91 : xm_okF 5 91 5 1 := ⟨_, _, _, rfl, by decide, xt_in 420 (by decide +kernel) rfl⟩
theorem xf_5_7 : xm_okF 5 7 5 2 := ⟨_, _, _, rfl, by decide, xt_in 421 (by decide +kernel) rfl⟩
theorem xf_5_78 : xm_okF 5 78 5 3 := ⟨_, _, _, rfl, by decide, xt_in 422 (by decide +kernel) rfl⟩
theorem xf_5_81 : xm_okF 5 81 5 4 := ⟨_, _, _, rfl, by decide, xt_in 423 (by decide +kernel) rfl⟩
theorem xf_5_84 : xm_okF 5 84 5 5 := ⟨_, _, _, rfl, by decide, xt_in 424 (by decide +kernel) rfl⟩
theorem xf_5_13 : xm_okF 5 13 5 6 := ⟨_, _, _, rfl, by decide, xt_in 425 (by decide +kernel) rfl⟩
theorem xf_5_17 : xm_okF 5 17 5 7 := ⟨_, _, _, rfl, by decide, xt_in 426 (by decide +kernel) rfl⟩
theorem xf_5_20 : xm_okF 5 20 5 8 := ⟨_, _, _, rfl, by decide, xt_in 427 (by decide +kernel) rfl⟩
theorem xf_5_23 : xm_okF 5 23 5 9 := ⟨_, _, _, rfl, by decide, xt_in 428 (by decide +kernel) rfl⟩
theorem xf_5_26 : xm_okF 5 26 5 10 := ⟨_, _, _, rfl, by decide, xt_in 429 (by decide +kernel) rfl⟩
theorem xf_5_30 : xm_okF 5 30 5 11 := ⟨_, _, _, rfl, by decide, xt_in 430 (by decide +kernel) rfl⟩
theorem xf_5_33 : xm_okF 5 33 5 12 := ⟨_, _, _, rfl, by decide, xt_in 431 (by decide +kernel) rfl⟩
theorem xf_5_36 : xm_okF 5 36 5 13 := ⟨_, _, _, rfl, by decide, xt_in 432 (by decide +kernel) rfl⟩
theorem xf_5_39 : xm_okF 5 39 5 14 := ⟨_, _, _, rfl, by decide, xt_in 433 (by decide +kernel) rfl⟩
theorem xf_5_42 : xm_okF 5 42 5 15 := ⟨_, _, _, rfl, by decide, xt_in 434 (by decide +kernel) rfl⟩
theorem xf_5_45 : xm_okF 5 45 5 16 := ⟨_, _, _, rfl, by decide, xt_in 435 (by decide +kernel) rfl⟩
theorem xf_5_48 : xm_okF 5 48 5 17 := ⟨_, _, _, rfl, by decide, xt_in 436 (by decide +kernel) rfl⟩
theorem xf_5_51 : xm_okF 5 51 5 18 := ⟨_, _, _, rfl, by decide, xt_in 437 (by decide +kernel) rfl⟩
theorem xf_5_54 : xm_okF 5 54 5 19 := ⟨_, _, _, rfl, by decide, xt_in 438 (by decide +kernel) rfl⟩
theorem xf_5_57 : xm_okF 5 57 5 20 := ⟨_, _, _, rfl, by decide, xt_in 439 (by decide +kernel) rfl⟩
theorem xf_5_60 : xm_okF 5 60 5 21 := ⟨_, _, _, rfl, by decide, xt_in 440 (by decide +kernel) rfl⟩
theorem xf_5_63 : xm_okF 5 63 5 22 := ⟨_, _, _, rfl, by decide, xt_in 441 (by decide +kernel) rfl⟩
theorem xf_5_66 : xm_okF 5 66 5 23 := ⟨_, _, _, rfl, by decide, xt_in 442 (by decide +kernel) rfl⟩
theorem xf_5_69 : xm_okF 5 69 5 24 := ⟨_, _, _, rfl, by decide, xt_in 443 (by decide +kernel) rfl⟩
theorem xf_5_72 : xm_okF 5 72 5 25 := ⟨_, _, _, rfl, by decide, xt_in 444 (by decide +kernel) rfl⟩
theorem xv_6_17 : xm_okV 6 17 m_M_job := ⟨ok_M_job, xt_in 500 (by decide +kernel) rfl, xt_in 501 (by decide +kernel) rfl, xt_in 502 (by decide +kernel) rfl, by decide, _, _, rfl⟩
theorem xv_6_22 : xm_okV 6 22 m_M_needs := ⟨ok_M_needs, xt_in 504 (by decide +kernel) rfl, xt_in 505 (by decide +kernel) rfl, xt_in 506 (by decide +kernel) rfl, by decide, _, _, rfl⟩
theorem xv_5_87 : xm_okV 5 87 m_M_isJob := ⟨ok_M_isJob, xt_in 508 (by decide +kernel) rfl, xt_in 510 (by decide +kernel) rfl, xt_in 11 (by decide +kernel) rfl, by decide, _, _, rfl⟩
theorem xv_6_27 : xm_okV 6 27 m_M_runner := ⟨ok_M_runner, xt_in 512 (by decide +kernel) rfl, xt_in 513 (by decide +kernel) rfl, xt_in 514 (by decide +kernel) rfl, by decide, _, _, rfl⟩
theorem xv_6_32 : xm_okV 6 32 m_M_lost := ⟨ok_M_lost, xt_in 516 (by decide +kernel) rfl, xt_in 517 (by decide +kernel) rfl, xt_in 518 (by decide +kernel) rfl, by decide, _, _, rfl⟩
theorem xv_6_37 : xm_okV 6 37 m_M_trigger := ⟨ok_M_trigger, xt_in 520 (by decide +kernel) rfl, xt_in 521 (by decide +kernel) rfl, xt_in 522 (by decide +kernel) rfl, by decide, _, _, rfl⟩
theorem xv_5_108 : xm_okV 5 108 m_M_isOver := ⟨ok_M_isOver, xt_in 524 (by decide +kernel) rfl, xt_in 526 (by decide +kernel) rfl, xt_in 12 (by decide +kernel) rfl, by decide, _, _, rfl⟩
theorem xs_5_94 : xm_okS 5 94 m_M_isEnd := ⟨ok_M_isEnd, xt_in 528 (by decide +kernel) rfl, xt_in 529 (by decide +kernel) rfl, by decide⟩
theorem xv_5_111 : xm_okV 5 111 m_M_stop := ⟨ok_M_stop, xt_in 531 (by decide +kernel) rfl, xt_in 533 (by decide +kernel) rfl, xt_in 13 (by decide +kernel) rfl, by decide, _, _, rfl⟩
theorem xv_5_104 : xm_okV 5 104 m_M_free := ⟨ok_M_free, xt_in 535 (by decide +kernel) rfl, xt_in 537 (by decide +kernel) rfl, xt_in 14 (by decide +kernel) rfl, by decide, _, _, rfl⟩
theorem xv_5_114 : xm_okV 5 114 m_M_settle := ⟨ok_M_settle, xt_in 539 (by decide +kernel) rfl, xt_in 541 (by decide +kernel) rfl, xt_in 15 (by decide +kernel) rfl, by decide, _, _, rfl⟩
theorem xv_5_100 : xm_okV 5 100 m_M_becomes := ⟨ok_M_becomes, xt_in 543 (by decide +kernel) rfl, xt_in 545 (by decide +kernel) rfl, xt_in 16 (by decide +kernel) rfl, by decide, _, _, rfl⟩
theorem xv_5_97 : xm_okV 5 97 m_M_isApproved := ⟨ok_M_isApproved, xt_in 547 (by decide +kernel) rfl, xt_in 549 (by decide +kernel) rfl, xt_in 17 (by decide +kernel) rfl, by decide, _, _, rfl⟩
theorem xv_6_42 : xm_okV 6 42 m_M_approve := ⟨ok_M_approve, xt_in 551 (by decide +kernel) rfl, xt_in 552 (by decide +kernel) rfl, xt_in 553 (by decide +kernel) rfl, by decide, _, _, rfl⟩
theorem xv_5_120 : xm_okV 5 120 m_M_isThere := ⟨ok_M_isThere, xt_in 555 (by decide +kernel) rfl, xt_in 557 (by decide +kernel) rfl, xt_in 18 (by decide +kernel) rfl, by decide, _, _, rfl⟩
theorem xv_5_117 : xm_okV 5 117 m_M_isRun := ⟨ok_M_isRun, xt_in 559 (by decide +kernel) rfl, xt_in 561 (by decide +kernel) rfl, xt_in 19 (by decide +kernel) rfl, by decide, _, _, rfl⟩
theorem xv_6_46 : xm_okV 6 46 m_M_take := ⟨ok_M_take, xt_in 563 (by decide +kernel) rfl, xt_in 564 (by decide +kernel) rfl, xt_in 565 (by decide +kernel) rfl, by decide, _, _, rfl⟩
theorem xv_5_124 : xm_okV 5 124 m_M_isRunner := ⟨ok_M_isRunner, xt_in 567 (by decide +kernel) rfl, xt_in 569 (by decide +kernel) rfl, xt_in 20 (by decide +kernel) rfl, by decide, _, _, rfl⟩
theorem xv_5_127 : xm_okV 5 127 m_M_busy := ⟨ok_M_busy, xt_in 571 (by decide +kernel) rfl, xt_in 573 (by decide +kernel) rfl, xt_in 21 (by decide +kernel) rfl, by decide, _, _, rfl⟩
theorem xv_6_50 : xm_okV 6 50 m_M_beat := ⟨ok_M_beat, xt_in 575 (by decide +kernel) rfl, xt_in 576 (by decide +kernel) rfl, xt_in 577 (by decide +kernel) rfl, by decide, _, _, rfl⟩
theorem xv_6_55 : xm_okV 6 55 m_M_end := ⟨ok_M_end, xt_in 579 (by decide +kernel) rfl, xt_in 580 (by decide +kernel) rfl, xt_in 581 (by decide +kernel) rfl, by decide, _, _, rfl⟩
theorem xv_5_131 : xm_okV 5 131 m_M_failTry := ⟨ok_M_failTry, xt_in 583 (by decide +kernel) rfl, xt_in 585 (by decide +kernel) rfl, xt_in 22 (by decide +kernel) rfl, by decide, _, _, rfl⟩
theorem xv_6_59 : xm_okV 6 59 m_M_tick := ⟨ok_M_tick, xt_in 587 (by decide +kernel) rfl, xt_in 588 (by decide +kernel) rfl, xt_in 589 (by decide +kernel) rfl, by decide, _, _, rfl⟩
theorem xv_5_137 : xm_okV 5 137 m_M_pass := ⟨ok_M_pass, xt_in 591 (by decide +kernel) rfl, xt_in 593 (by decide +kernel) rfl, xt_in 23 (by decide +kernel) rfl, by decide, _, _, rfl⟩
theorem xv_5_134 : xm_okV 5 134 m_M_runnerOf := ⟨ok_M_runnerOf, xt_in 595 (by decide +kernel) rfl, xt_in 597 (by decide +kernel) rfl, xt_in 24 (by decide +kernel) rfl, by decide, _, _, rfl⟩
theorem xv_6_63 : xm_okV 6 63 m_M_cancel := ⟨ok_M_cancel, xt_in 599 (by decide +kernel) rfl, xt_in 600 (by decide +kernel) rfl, xt_in 601 (by decide +kernel) rfl, by decide, _, _, rfl⟩
theorem xv_6_67 : xm_okV 6 67 m_M_again := ⟨ok_M_again, xt_in 603 (by decide +kernel) rfl, xt_in 604 (by decide +kernel) rfl, xt_in 605 (by decide +kernel) rfl, by decide, _, _, rfl⟩
theorem xv_6_71 : xm_okV 6 71 m_M_state := ⟨ok_M_state, xt_in 607 (by decide +kernel) rfl, xt_in 608 (by decide +kernel) rfl, xt_in 609 (by decide +kernel) rfl, by decide, _, _, rfl⟩
theorem xv_6_75 : xm_okV 6 75 m_M_about := ⟨ok_M_about, xt_in 611 (by decide +kernel) rfl, xt_in 612 (by decide +kernel) rfl, xt_in 613 (by decide +kernel) rfl, by decide, _, _, rfl⟩
theorem xv_6_79 : xm_okV 6 79 m_M_verdict := ⟨ok_M_verdict, xt_in 615 (by decide +kernel) rfl, xt_in 616 (by decide +kernel) rfl, xt_in 617 (by decide +kernel) rfl, by decide, _, _, rfl⟩
theorem xv_6_83 : xm_okV 6 83 m_M_has := ⟨ok_M_has, xt_in 619 (by decide +kernel) rfl, xt_in 620 (by decide +kernel) rfl, xt_in 621 (by decide +kernel) rfl, by decide, _, _, rfl⟩
end
