section
-- ===== PART A: goes FIRST, ahead of the names: the tables' words, and 'selects' of the private methods out of them =====
/-- a private method of a class that the tables say can be made, by its rows of tables_1 -/
def lw_okq (q : MethodName × Nat) : Prop := (q.1.cls ≠ "java/lang/invoke/MethodHandle" ∧ q.1.cls ≠ "java/lang/invoke/VarHandle") ∧ Cond.instantiable q.1.cls q.2 ∈ tables_1 ∧ Cond.privateMethod q.1 ∈ tables_1 ∧ Cond.instanceMethod q.1 ∈ tables_1
theorem lw_p0 : lw_okq (⟨"JobStates", "cancelGroup", "(I)V"⟩, 8) := ⟨⟨by decide +kernel, by decide +kernel⟩, List.mem_of_getElem? (i := 9) (by decide +kernel), List.mem_of_getElem? (i := 130) (by decide +kernel), List.mem_of_getElem? (i := 131) (by decide +kernel)⟩
theorem lw_p1 : lw_okq (⟨"JobStates", "newRun", "(III)LJobStates$Run;"⟩, 8) := ⟨⟨by decide +kernel, by decide +kernel⟩, List.mem_of_getElem? (i := 9) (by decide +kernel), List.mem_of_getElem? (i := 150) (by decide +kernel), List.mem_of_getElem? (i := 151) (by decide +kernel)⟩
theorem lw_p2 : lw_okq (⟨"JobStates", "settle", "()V"⟩, 8) := ⟨⟨by decide +kernel, by decide +kernel⟩, List.mem_of_getElem? (i := 9) (by decide +kernel), List.mem_of_getElem? (i := 235) (by decide +kernel), List.mem_of_getElem? (i := 236) (by decide +kernel)⟩
theorem lw_p3 : lw_okq (⟨"JobStates", "findTask", "(II)LJobStates$Task;"⟩, 8) := ⟨⟨by decide +kernel, by decide +kernel⟩, List.mem_of_getElem? (i := 9) (by decide +kernel), List.mem_of_getElem? (i := 262) (by decide +kernel), List.mem_of_getElem? (i := 263) (by decide +kernel)⟩
theorem lw_p4 : lw_okq (⟨"JobStates", "findRun", "(I)LJobStates$Run;"⟩, 8) := ⟨⟨by decide +kernel, by decide +kernel⟩, List.mem_of_getElem? (i := 9) (by decide +kernel), List.mem_of_getElem? (i := 266) (by decide +kernel), List.mem_of_getElem? (i := 267) (by decide +kernel)⟩
theorem lw_p5 : lw_okq (⟨"JobStates", "findRunner", "(I)LJobStates$Runner;"⟩, 8) := ⟨⟨by decide +kernel, by decide +kernel⟩, List.mem_of_getElem? (i := 9) (by decide +kernel), List.mem_of_getElem? (i := 275) (by decide +kernel), List.mem_of_getElem? (i := 276) (by decide +kernel)⟩
theorem lw_p6 : lw_okq (⟨"JobStates", "nextFor", "(LJobStates$Runner;)LJobStates$Task;"⟩, 8) := ⟨⟨by decide +kernel, by decide +kernel⟩, List.mem_of_getElem? (i := 9) (by decide +kernel), List.mem_of_getElem? (i := 279) (by decide +kernel), List.mem_of_getElem? (i := 280) (by decide +kernel)⟩
theorem lw_p7 : lw_okq (⟨"JobStates", "isServedBefore", "(II)Z"⟩, 8) := ⟨⟨by decide +kernel, by decide +kernel⟩, List.mem_of_getElem? (i := 9) (by decide +kernel), List.mem_of_getElem? (i := 287) (by decide +kernel), List.mem_of_getElem? (i := 288) (by decide +kernel)⟩
theorem lw_p8 : lw_okq (⟨"JobStates", "runningOf", "(I)I"⟩, 8) := ⟨⟨by decide +kernel, by decide +kernel⟩, List.mem_of_getElem? (i := 9) (by decide +kernel), List.mem_of_getElem? (i := 291) (by decide +kernel), List.mem_of_getElem? (i := 292) (by decide +kernel)⟩
theorem lw_p9 : lw_okq (⟨"JobStates", "isAnyRunnerBusy", "()Z"⟩, 8) := ⟨⟨by decide +kernel, by decide +kernel⟩, List.mem_of_getElem? (i := 9) (by decide +kernel), List.mem_of_getElem? (i := 324) (by decide +kernel), List.mem_of_getElem? (i := 325) (by decide +kernel)⟩
theorem lw_p10 : lw_okq (⟨"JobStates", "checkRunners", "()V"⟩, 8) := ⟨⟨by decide +kernel, by decide +kernel⟩, List.mem_of_getElem? (i := 9) (by decide +kernel), List.mem_of_getElem? (i := 328) (by decide +kernel), List.mem_of_getElem? (i := 329) (by decide +kernel)⟩
theorem lw_p11 : lw_okq (⟨"JobStatesModel", "isJob", "(I)Z"⟩, 26) := ⟨⟨by decide +kernel, by decide +kernel⟩, List.mem_of_getElem? (i := 389) (by decide +kernel), List.mem_of_getElem? (i := 484) (by decide +kernel), List.mem_of_getElem? (i := 485) (by decide +kernel)⟩
theorem lw_p12 : lw_okq (⟨"JobStatesModel", "isOver", "(I)Z"⟩, 26) := ⟨⟨by decide +kernel, by decide +kernel⟩, List.mem_of_getElem? (i := 389) (by decide +kernel), List.mem_of_getElem? (i := 500) (by decide +kernel), List.mem_of_getElem? (i := 501) (by decide +kernel)⟩
theorem lw_p13 : lw_okq (⟨"JobStatesModel", "stop", "(I)V"⟩, 26) := ⟨⟨by decide +kernel, by decide +kernel⟩, List.mem_of_getElem? (i := 389) (by decide +kernel), List.mem_of_getElem? (i := 507) (by decide +kernel), List.mem_of_getElem? (i := 508) (by decide +kernel)⟩
theorem lw_p14 : lw_okq (⟨"JobStatesModel", "free", "(I)V"⟩, 26) := ⟨⟨by decide +kernel, by decide +kernel⟩, List.mem_of_getElem? (i := 389) (by decide +kernel), List.mem_of_getElem? (i := 511) (by decide +kernel), List.mem_of_getElem? (i := 512) (by decide +kernel)⟩
theorem lw_p15 : lw_okq (⟨"JobStatesModel", "settle", "()V"⟩, 26) := ⟨⟨by decide +kernel, by decide +kernel⟩, List.mem_of_getElem? (i := 389) (by decide +kernel), List.mem_of_getElem? (i := 515) (by decide +kernel), List.mem_of_getElem? (i := 516) (by decide +kernel)⟩
def lw_privs_1 : List (MethodName × Nat) := [(⟨"JobStates", "cancelGroup", "(I)V"⟩, 8), (⟨"JobStates", "newRun", "(III)LJobStates$Run;"⟩, 8), (⟨"JobStates", "settle", "()V"⟩, 8), (⟨"JobStates", "findTask", "(II)LJobStates$Task;"⟩, 8), (⟨"JobStates", "findRun", "(I)LJobStates$Run;"⟩, 8), (⟨"JobStates", "findRunner", "(I)LJobStates$Runner;"⟩, 8), (⟨"JobStates", "nextFor", "(LJobStates$Runner;)LJobStates$Task;"⟩, 8), (⟨"JobStates", "isServedBefore", "(II)Z"⟩, 8), (⟨"JobStates", "runningOf", "(I)I"⟩, 8), (⟨"JobStates", "isAnyRunnerBusy", "()Z"⟩, 8), (⟨"JobStates", "checkRunners", "()V"⟩, 8), (⟨"JobStatesModel", "isJob", "(I)Z"⟩, 26), (⟨"JobStatesModel", "isOver", "(I)Z"⟩, 26), (⟨"JobStatesModel", "stop", "(I)V"⟩, 26), (⟨"JobStatesModel", "free", "(I)V"⟩, 26), (⟨"JobStatesModel", "settle", "()V"⟩, 26)]
theorem lw_r1 : ∀ q ∈ lw_privs_1, lw_okq q := List.forall_mem_cons.mpr ⟨lw_p0, List.forall_mem_cons.mpr ⟨lw_p1, List.forall_mem_cons.mpr ⟨lw_p2, List.forall_mem_cons.mpr ⟨lw_p3, List.forall_mem_cons.mpr ⟨lw_p4, List.forall_mem_cons.mpr ⟨lw_p5, List.forall_mem_cons.mpr ⟨lw_p6, List.forall_mem_cons.mpr ⟨lw_p7, List.forall_mem_cons.mpr ⟨lw_p8, List.forall_mem_cons.mpr ⟨lw_p9, List.forall_mem_cons.mpr ⟨lw_p10, List.forall_mem_cons.mpr ⟨lw_p11, List.forall_mem_cons.mpr ⟨lw_p12, List.forall_mem_cons.mpr ⟨lw_p13, List.forall_mem_cons.mpr ⟨lw_p14, List.forall_mem_cons.mpr ⟨lw_p15, fun _ h => absurd h List.not_mem_nil⟩⟩⟩⟩⟩⟩⟩⟩⟩⟩⟩⟩⟩⟩⟩⟩
theorem lw_p16 : lw_okq (⟨"JobStatesModel", "becomes", "(II)I"⟩, 26) := ⟨⟨by decide +kernel, by decide +kernel⟩, List.mem_of_getElem? (i := 389) (by decide +kernel), List.mem_of_getElem? (i := 519) (by decide +kernel), List.mem_of_getElem? (i := 520) (by decide +kernel)⟩
theorem lw_p17 : lw_okq (⟨"JobStatesModel", "isApproved", "(I)Z"⟩, 26) := ⟨⟨by decide +kernel, by decide +kernel⟩, List.mem_of_getElem? (i := 389) (by decide +kernel), List.mem_of_getElem? (i := 523) (by decide +kernel), List.mem_of_getElem? (i := 524) (by decide +kernel)⟩
theorem lw_p18 : lw_okq (⟨"JobStatesModel", "isThere", "(II)Z"⟩, 26) := ⟨⟨by decide +kernel, by decide +kernel⟩, List.mem_of_getElem? (i := 389) (by decide +kernel), List.mem_of_getElem? (i := 531) (by decide +kernel), List.mem_of_getElem? (i := 532) (by decide +kernel)⟩
theorem lw_p19 : lw_okq (⟨"JobStatesModel", "isRun", "(I)Z"⟩, 26) := ⟨⟨by decide +kernel, by decide +kernel⟩, List.mem_of_getElem? (i := 389) (by decide +kernel), List.mem_of_getElem? (i := 535) (by decide +kernel), List.mem_of_getElem? (i := 536) (by decide +kernel)⟩
theorem lw_p20 : lw_okq (⟨"JobStatesModel", "isRunner", "(I)Z"⟩, 26) := ⟨⟨by decide +kernel, by decide +kernel⟩, List.mem_of_getElem? (i := 389) (by decide +kernel), List.mem_of_getElem? (i := 543) (by decide +kernel), List.mem_of_getElem? (i := 544) (by decide +kernel)⟩
theorem lw_p21 : lw_okq (⟨"JobStatesModel", "busy", "(I)I"⟩, 26) := ⟨⟨by decide +kernel, by decide +kernel⟩, List.mem_of_getElem? (i := 389) (by decide +kernel), List.mem_of_getElem? (i := 547) (by decide +kernel), List.mem_of_getElem? (i := 548) (by decide +kernel)⟩
theorem lw_p22 : lw_okq (⟨"JobStatesModel", "failTry", "(I)V"⟩, 26) := ⟨⟨by decide +kernel, by decide +kernel⟩, List.mem_of_getElem? (i := 389) (by decide +kernel), List.mem_of_getElem? (i := 559) (by decide +kernel), List.mem_of_getElem? (i := 560) (by decide +kernel)⟩
theorem lw_p23 : lw_okq (⟨"JobStatesModel", "pass", "(I)V"⟩, 26) := ⟨⟨by decide +kernel, by decide +kernel⟩, List.mem_of_getElem? (i := 389) (by decide +kernel), List.mem_of_getElem? (i := 567) (by decide +kernel), List.mem_of_getElem? (i := 568) (by decide +kernel)⟩
theorem lw_p24 : lw_okq (⟨"JobStatesModel", "runnerOf", "(I)I"⟩, 26) := ⟨⟨by decide +kernel, by decide +kernel⟩, List.mem_of_getElem? (i := 389) (by decide +kernel), List.mem_of_getElem? (i := 571) (by decide +kernel), List.mem_of_getElem? (i := 572) (by decide +kernel)⟩
def lw_privs_2 : List (MethodName × Nat) := [(⟨"JobStatesModel", "becomes", "(II)I"⟩, 26), (⟨"JobStatesModel", "isApproved", "(I)Z"⟩, 26), (⟨"JobStatesModel", "isThere", "(II)Z"⟩, 26), (⟨"JobStatesModel", "isRun", "(I)Z"⟩, 26), (⟨"JobStatesModel", "isRunner", "(I)Z"⟩, 26), (⟨"JobStatesModel", "busy", "(I)I"⟩, 26), (⟨"JobStatesModel", "failTry", "(I)V"⟩, 26), (⟨"JobStatesModel", "pass", "(I)V"⟩, 26), (⟨"JobStatesModel", "runnerOf", "(I)I"⟩, 26)]
theorem lw_r2 : ∀ q ∈ lw_privs_2, lw_okq q := List.forall_mem_cons.mpr ⟨lw_p16, List.forall_mem_cons.mpr ⟨lw_p17, List.forall_mem_cons.mpr ⟨lw_p18, List.forall_mem_cons.mpr ⟨lw_p19, List.forall_mem_cons.mpr ⟨lw_p20, List.forall_mem_cons.mpr ⟨lw_p21, List.forall_mem_cons.mpr ⟨lw_p22, List.forall_mem_cons.mpr ⟨lw_p23, List.forall_mem_cons.mpr ⟨lw_p24, fun _ h => absurd h List.not_mem_nil⟩⟩⟩⟩⟩⟩⟩⟩⟩
def lw_privs : List (MethodName × Nat) := lw_privs_1 ++ (lw_privs_2)
def lw_tbl : List Cond := k2_sels lw_privs ++ tables_1
theorem lw_privs_ok : ∀ q ∈ lw_privs, lw_okq q := by
  show ∀ q ∈ lw_privs_1 ++ (lw_privs_2), lw_okq q
  exact List.forall_mem_append.mpr ⟨lw_r1, lw_r2⟩
-- ===== end of PART A; then your names; then what follows =====
end
section
/-! names and tables, by program (wip/whole/names.py) out of the claim's own words and listing -/
def xt_ws : List Cond := lw_tbl.filter goodWord
theorem xt_in (i : Nat) {w : Cond} (h : lw_tbl[i]? = some w) (hg : goodWord w = true) : w ∈ xt_ws := List.mem_filter.mpr ⟨List.mem_of_getElem? h, hg⟩
theorem xt_good : ∀ w ∈ xt_ws, (w.onTables && w.keeps) = true ∨ ∃ ty, w = .arrayClass ty := fun _ h => good_of_word (List.mem_filter.mp h).2
def xT0 : u_T := fun k => match k with
  | 0 => ("JobStates$Job", "labels", "I", true)
  | 1 => ("JobStates$Job", "limit", "I", true)
  | 2 => ("JobStates$Job", "retries", "I", true)
  | 3 => ("JobStates$Job", "always", "Z", true)
  | 4 => ("JobStates$Job", "approval", "Z", true)
  | _ => ("JobStates$Job", "needed", "I", false)
def xy0 : Nat → FieldType := fun k => match k with
  | 0 => .int
  | 1 => .int
  | 2 => .int
  | 3 => .boolean
  | 4 => .boolean
  | _ => .int
theorem xn0 : ∀ a, a < 6 → ∀ b, b < 6 → a ≠ b → (xT0 a).2.1 ≠ (xT0 b).2.1 := by decide +kernel
theorem xp0 : ∀ k, k < 6 → parseFieldDescriptor (xT0 k).2.2.1 = some (xy0 k) := by decide +kernel
theorem xw0 : ∀ w ∈ u_ws "JobStates$Job" xT0 6, w ∈ xt_ws := by
  intro w hw
  have e : u_ws "JobStates$Job" xT0 6 = [94, 96, 98, 100, 102, 104].filterMap (fun i => lw_tbl[i]?) := by decide +kernel
  have g : (u_ws "JobStates$Job" xT0 6).all goodWord = true := by decide +kernel
  have hg := List.all_eq_true.mp g w hw
  rw [e] at hw
  obtain ⟨i, -, hi⟩ := List.mem_filterMap.mp hw
  exact xt_in i hi hg
def xT1 : u_T := fun k => match k with
  | 0 => ("JobStates$Run", "number", "I", true)
  | 1 => ("JobStates$Run", "person", "I", true)
  | 2 => ("JobStates$Run", "group", "I", true)
  | 3 => ("JobStates$Run", "tasks", "[LJobStates$Task;", true)
  | _ => ("JobStates$Run", "cancelled", "Z", false)
def xy1 : Nat → FieldType := fun k => match k with
  | 0 => .int
  | 1 => .int
  | 2 => .int
  | 3 => .array (.object "JobStates$Task")
  | _ => .boolean
theorem xn1 : ∀ a, a < 5 → ∀ b, b < 5 → a ≠ b → (xT1 a).2.1 ≠ (xT1 b).2.1 := by decide +kernel
theorem xp1 : ∀ k, k < 5 → parseFieldDescriptor (xT1 k).2.2.1 = some (xy1 k) := by decide +kernel
theorem xw1 : ∀ w ∈ u_ws "JobStates$Run" xT1 5, w ∈ xt_ws := by
  intro w hw
  have e : u_ws "JobStates$Run" xT1 5 = [195, 197, 199, 201, 203].filterMap (fun i => lw_tbl[i]?) := by decide +kernel
  have g : (u_ws "JobStates$Run" xT1 5).all goodWord = true := by decide +kernel
  have hg := List.all_eq_true.mp g w hw
  rw [e] at hw
  obtain ⟨i, -, hi⟩ := List.mem_filterMap.mp hw
  exact xt_in i hi hg
def xT2 : u_T := fun k => match k with
  | 0 => ("JobStates$Runner", "number", "I", true)
  | 1 => ("JobStates$Runner", "labels", "I", true)
  | 2 => ("JobStates$Runner", "beat", "I", false)
  | _ => ("JobStates$Runner", "task", "LJobStates$Task;", false)
def xy2 : Nat → FieldType := fun k => match k with
  | 0 => .int
  | 1 => .int
  | 2 => .int
  | _ => .object "JobStates$Task"
theorem xn2 : ∀ a, a < 4 → ∀ b, b < 4 → a ≠ b → (xT2 a).2.1 ≠ (xT2 b).2.1 := by decide +kernel
theorem xp2 : ∀ k, k < 4 → parseFieldDescriptor (xT2 k).2.2.1 = some (xy2 k) := by decide +kernel
theorem xw2 : ∀ w ∈ u_ws "JobStates$Runner" xT2 4, w ∈ xt_ws := by
  intro w hw
  have e : u_ws "JobStates$Runner" xT2 4 = [134, 136, 138, 140].filterMap (fun i => lw_tbl[i]?) := by decide +kernel
  have g : (u_ws "JobStates$Runner" xT2 4).all goodWord = true := by decide +kernel
  have hg := List.all_eq_true.mp g w hw
  rw [e] at hw
  obtain ⟨i, -, hi⟩ := List.mem_filterMap.mp hw
  exact xt_in i hi hg
def xT3 : u_T := fun k => match k with
  | 0 => ("JobStates$Task", "run", "LJobStates$Run;", true)
  | 1 => ("JobStates$Task", "number", "I", true)
  | 2 => ("JobStates$Task", "job", "LJobStates$Job;", true)
  | 3 => ("JobStates$Task", "state", "I", false)
  | 4 => ("JobStates$Task", "runner", "LJobStates$Runner;", false)
  | 5 => ("JobStates$Task", "startedAt", "I", false)
  | 6 => ("JobStates$Task", "approvals", "I", false)
  | 7 => ("JobStates$Task", "artefact", "I", false)
  | 8 => ("JobStates$Task", "triesBegun", "I", false)
  | 9 => ("JobStates$Task", "timesLost", "I", false)
  | 10 => ("JobStates$Task", "failedTriesSinceWaiting", "I", false)
  | _ => ("JobStates$Task", "lostSinceWaiting", "Z", false)
def xy3 : Nat → FieldType := fun k => match k with
  | 0 => .object "JobStates$Run"
  | 1 => .int
  | 2 => .object "JobStates$Job"
  | 3 => .int
  | 4 => .object "JobStates$Runner"
  | 5 => .int
  | 6 => .int
  | 7 => .int
  | 8 => .int
  | 9 => .int
  | 10 => .int
  | _ => .boolean
theorem xn3 : ∀ a, a < 12 → ∀ b, b < 12 → a ≠ b → (xT3 a).2.1 ≠ (xT3 b).2.1 := by decide +kernel
theorem xp3 : ∀ k, k < 12 → parseFieldDescriptor (xT3 k).2.2.1 = some (xy3 k) := by decide +kernel
theorem xw3 : ∀ w ∈ u_ws "JobStates$Task" xT3 12, w ∈ xt_ws := by
  intro w hw
  have e : u_ws "JobStates$Task" xT3 12 = [234, 236, 238, 240, 242, 244, 246, 248, 250, 252, 254, 256].filterMap (fun i => lw_tbl[i]?) := by decide +kernel
  have g : (u_ws "JobStates$Task" xT3 12).all goodWord = true := by decide +kernel
  have hg := List.all_eq_true.mp g w hw
  rw [e] at hw
  obtain ⟨i, -, hi⟩ := List.mem_filterMap.mp hw
  exact xt_in i hi hg
def xT4 : u_T := fun k => match k with
  | 0 => ("JobStates", "jobs", "[LJobStates$Job;", true)
  | 1 => ("JobStates", "runners", "[LJobStates$Runner;", true)
  | 2 => ("JobStates", "runs", "[LJobStates$Run;", true)
  | 3 => ("JobStates", "jobCount", "I", false)
  | 4 => ("JobStates", "runnerCount", "I", false)
  | 5 => ("JobStates", "runCount", "I", false)
  | 6 => ("JobStates", "clock", "I", false)
  | _ => ("JobStates", "lostTime", "I", false)
def xy4 : Nat → FieldType := fun k => match k with
  | 0 => .array (.object "JobStates$Job")
  | 1 => .array (.object "JobStates$Runner")
  | 2 => .array (.object "JobStates$Run")
  | 3 => .int
  | 4 => .int
  | 5 => .int
  | 6 => .int
  | _ => .int
theorem xn4 : ∀ a, a < 8 → ∀ b, b < 8 → a ≠ b → (xT4 a).2.1 ≠ (xT4 b).2.1 := by decide +kernel
theorem xp4 : ∀ k, k < 8 → parseFieldDescriptor (xT4 k).2.2.1 = some (xy4 k) := by decide +kernel
theorem xw4 : ∀ w ∈ u_ws "JobStates" xT4 8, w ∈ xt_ws := by
  intro w hw
  have e : u_ws "JobStates" xT4 8 = [55, 57, 59, 61, 63, 65, 67, 69].filterMap (fun i => lw_tbl[i]?) := by decide +kernel
  have g : (u_ws "JobStates" xT4 8).all goodWord = true := by decide +kernel
  have hg := List.all_eq_true.mp g w hw
  rw [e] at hw
  obtain ⟨i, -, hi⟩ := List.mem_filterMap.mp hw
  exact xt_in i hi hg
def xT5 : u_T := fun k => match k with
  | 0 => ("JobStatesModel", "code", "I", false)
  | 1 => ("JobStatesModel", "clock", "I", false)
  | 2 => ("JobStatesModel", "lostAt", "I", false)
  | 3 => ("JobStatesModel", "jobs", "I", false)
  | 4 => ("JobStatesModel", "runs", "I", false)
  | 5 => ("JobStatesModel", "runners", "I", false)
  | 6 => ("JobStatesModel", "labels", "[I", true)
  | 7 => ("JobStatesModel", "limit", "[I", true)
  | 8 => ("JobStatesModel", "retries", "[I", true)
  | 9 => ("JobStatesModel", "need", "[I", true)
  | 10 => ("JobStatesModel", "always", "[Z", true)
  | 11 => ("JobStatesModel", "wants", "[Z", true)
  | 12 => ("JobStatesModel", "person", "[I", true)
  | 13 => ("JobStatesModel", "group", "[I", true)
  | 14 => ("JobStatesModel", "isCancelled", "[Z", true)
  | 15 => ("JobStatesModel", "state", "[I", true)
  | 16 => ("JobStatesModel", "since", "[I", true)
  | 17 => ("JobStatesModel", "tries", "[I", true)
  | 18 => ("JobStatesModel", "failures", "[I", true)
  | 19 => ("JobStatesModel", "losses", "[I", true)
  | 20 => ("JobStatesModel", "lossesNow", "[I", true)
  | 21 => ("JobStatesModel", "artefact", "[I", true)
  | 22 => ("JobStatesModel", "approvals", "[I", true)
  | 23 => ("JobStatesModel", "runnerLabels", "[I", true)
  | 24 => ("JobStatesModel", "beat", "[I", true)
  | _ => ("JobStatesModel", "has", "[I", true)
def xy5 : Nat → FieldType := fun k => match k with
  | 0 => .int
  | 1 => .int
  | 2 => .int
  | 3 => .int
  | 4 => .int
  | 5 => .int
  | 6 => .array (.int)
  | 7 => .array (.int)
  | 8 => .array (.int)
  | 9 => .array (.int)
  | 10 => .array (.boolean)
  | 11 => .array (.boolean)
  | 12 => .array (.int)
  | 13 => .array (.int)
  | 14 => .array (.boolean)
  | 15 => .array (.int)
  | 16 => .array (.int)
  | 17 => .array (.int)
  | 18 => .array (.int)
  | 19 => .array (.int)
  | 20 => .array (.int)
  | 21 => .array (.int)
  | 22 => .array (.int)
  | 23 => .array (.int)
  | 24 => .array (.int)
  | _ => .array (.int)
theorem xn5 : ∀ a, a < 26 → ∀ b, b < 26 → a ≠ b → (xT5 a).2.1 ≠ (xT5 b).2.1 := by decide +kernel
theorem xp5 : ∀ k, k < 26 → parseFieldDescriptor (xT5 k).2.2.1 = some (xy5 k) := by decide +kernel
theorem xw5 : ∀ w ∈ u_ws "JobStatesModel" xT5 26, w ∈ xt_ws := by
  intro w hw
  have e : u_ws "JobStatesModel" xT5 26 = [445, 447, 449, 451, 453, 455, 457, 459, 461, 463, 465, 467, 469, 471, 473, 475, 477, 479, 481, 483, 485, 487, 489, 491, 493, 495].filterMap (fun i => lw_tbl[i]?) := by decide +kernel
  have g : (u_ws "JobStatesModel" xT5 26).all goodWord = true := by decide +kernel
  have hg := List.all_eq_true.mp g w hw
  rw [e] at hw
  obtain ⟨i, -, hi⟩ := List.mem_filterMap.mp hw
  exact xt_in i hi hg
def xt_nm : Nat → String := fun k => match k with
  | 0 => "JobStates$Job"
  | 1 => "JobStates$Run"
  | 2 => "JobStates$Runner"
  | 3 => "JobStates$Task"
  | 4 => "JobStates"
  | 5 => "JobStatesModel"
  | 6 => "JobStatesLaw"
  | _ => "java/lang/Integer"
abbrev xt_cl : List vw_C := [("JobStates$Job", xT0, 6), ("JobStates$Run", xT1, 5), ("JobStates$Runner", xT2, 4), ("JobStates$Task", xT3, 12), ("JobStates", xT4, 8), ("JobStatesModel", xT5, 26)]
def xt_ty : Nat → Nat → FieldType := fun c => match c with
  | 0 => xy0
  | 1 => xy1
  | 2 => xy2
  | 3 => xy3
  | 4 => xy4
  | _ => xy5
abbrev xt_at : List FieldType := [.int, .boolean, .object "JobStates$Job", .object "JobStates$Runner", .object "JobStates$Run", .object "JobStates$Task"]
theorem xt_cl_ok {ci : Nat} {C : String} {T : u_T} {N : Nat} (h : xt_cl[ci]? = some (C, T, N)) : (∀ w ∈ u_ws C T N, w ∈ xt_ws) ∧ (∀ k, k < N → parseFieldDescriptor (T k).2.2.1 = some (xt_ty ci k)) ∧ (∀ a, a < N → ∀ b, b < N → a ≠ b → (T a).2.1 ≠ (T b).2.1) ∧ Cond.instantiable C N ∈ xt_ws ∧ Cond.initialized C ∈ xt_ws := by
  match ci, h with
  | 0, h => cases h; exact ⟨xw0, xp0, xn0, xt_in 76 (by decide +kernel) rfl, xt_in 28 (by decide +kernel) rfl⟩
  | 1, h => cases h; exact ⟨xw1, xp1, xn1, xt_in 178 (by decide +kernel) rfl, xt_in 30 (by decide +kernel) rfl⟩
  | 2, h => cases h; exact ⟨xw2, xp2, xn2, xt_in 119 (by decide +kernel) rfl, xt_in 29 (by decide +kernel) rfl⟩
  | 3, h => cases h; exact ⟨xw3, xp3, xn3, xt_in 207 (by decide +kernel) rfl, xt_in 31 (by decide +kernel) rfl⟩
  | 4, h => cases h; exact ⟨xw4, xp4, xn4, xt_in 34 (by decide +kernel) rfl, xt_in 26 (by decide +kernel) rfl⟩
  | 5, h => cases h; exact ⟨xw5, xp5, xn5, xt_in 414 (by decide +kernel) rfl, xt_in 27 (by decide +kernel) rfl⟩
  | k + 6, h => simp [xt_cl] at h
def xt_fin (ci k : Nat) : Bool := match xt_cl[ci]? with
  | some q => (q.2.1 k).2.2.2
  | none => true
def xt_dec (ci k : Nat) : String := match xt_cl[ci]? with
  | some q => (q.2.1 k).1
  | none => ""
def xt_dflt (ci : Nat) : List Value := match xt_cl[ci]? with
  | some q => (List.range q.2.2).map (fun k => defaultValue (xt_ty ci k))
  | none => []
/-- a method: its name, code, locals, answer, the number of its class, how many it takes (the receiver apart) -/
abbrev xm_M : Type := MethodName × ByteArray × Nat × Option FieldType × Nat × Nat
abbrev xt_y (y : xm_M) : MethodName := y.1
abbrev xt_code (y : xm_M) : ByteArray := y.2.1
abbrev xt_maxL (y : xm_M) : Nat := y.2.2.1
abbrev xt_ret (y : xm_M) : Option FieldType := y.2.2.2.1
abbrev xt_own (y : xm_M) : Nat := y.2.2.2.2.1
abbrev xt_np (y : xm_M) : Nat := y.2.2.2.2.2
abbrev xt_LM : Nat := 30
def m_S_init : xm_M := (⟨"JobStates", "<init>", "()V"⟩, prog_1_method_1_code, 1, none, 4, 0)
def m_S_job : xm_M := (⟨"JobStates", "job", "(IIIZZ)I"⟩, prog_1_method_2_code, 7, (some (.int)), 4, 5)
def m_Job_init : xm_M := (⟨"JobStates$Job", "<init>", "(IIIZZ)V"⟩, prog_2_method_1_code, 6, none, 0, 5)
def m_S_needs : xm_M := (⟨"JobStates", "needs", "(II)Z"⟩, prog_1_method_3_code, 4, (some (.boolean)), 4, 2)
def m_Job_isNeeding : xm_M := (⟨"JobStates$Job", "isNeeding", "(I)Z"⟩, prog_2_method_2_code, 2, (some (.boolean)), 0, 1)
def m_S_runner : xm_M := (⟨"JobStates", "runner", "(I)I"⟩, prog_1_method_4_code, 3, (some (.int)), 4, 1)
def m_Rnr_init : xm_M := (⟨"JobStates$Runner", "<init>", "(III)V"⟩, prog_4_method_1_code, 4, none, 2, 3)
def m_S_lost : xm_M := (⟨"JobStates", "lost", "(I)Z"⟩, prog_1_method_5_code, 2, (some (.boolean)), 4, 1)
def m_S_trigger : xm_M := (⟨"JobStates", "trigger", "(II)I"⟩, prog_1_method_6_code, 4, (some (.int)), 4, 2)
def m_S_isPerson : xm_M := (⟨"JobStates", "isPerson", "(I)Z"⟩, prog_1_method_18_code, 1, (some (.boolean)), 4, 1)
def m_S_cancelGroup : xm_M := (⟨"JobStates", "cancelGroup", "(I)V"⟩, prog_1_method_23_code, 3, none, 4, 1)
def m_Run_isOver : xm_M := (⟨"JobStates$Run", "isOver", "()Z"⟩, prog_3_method_2_code, 2, (some (.boolean)), 1, 0)
def m_Tsk_isEnded : xm_M := (⟨"JobStates$Task", "isEnded", "()Z"⟩, prog_5_method_3_code, 1, (some (.boolean)), 3, 0)
def m_Run_cancelAll : xm_M := (⟨"JobStates$Run", "cancelAll", "()V"⟩, prog_3_method_5_code, 2, none, 1, 0)
def m_Tsk_leaveRunner : xm_M := (⟨"JobStates$Task", "leaveRunner", "()V"⟩, prog_5_method_8_code, 1, none, 3, 0)
def m_S_newRun : xm_M := (⟨"JobStates", "newRun", "(III)LJobStates$Run;"⟩, prog_1_method_22_code, 6, (some (.object "JobStates$Run")), 4, 3)
def m_Run_init : xm_M := (⟨"JobStates$Run", "<init>", "(IIII)V"⟩, prog_3_method_1_code, 5, none, 1, 4)
def m_Tsk_init : xm_M := (⟨"JobStates$Task", "<init>", "(LJobStates$Run;ILJobStates$Job;)V"⟩, prog_5_method_1_code, 4, none, 3, 3)
def m_S_settle : xm_M := (⟨"JobStates", "settle", "()V"⟩, prog_1_method_24_code, 2, none, 4, 0)
def m_Run_settleTasks : xm_M := (⟨"JobStates$Run", "settleTasks", "()V"⟩, prog_3_method_7_code, 2, none, 1, 0)
def m_Run_stateAfterWaiting : xm_M := (⟨"JobStates$Run", "stateAfterWaiting", "(LJobStates$Task;)I"⟩, prog_3_method_8_code, 5, (some (.int)), 1, 1)
def m_Tsk_isFreeToRun : xm_M := (⟨"JobStates$Task", "isFreeToRun", "()Z"⟩, prog_5_method_4_code, 1, (some (.boolean)), 3, 0)
def m_I_bitCount : xm_M := (⟨"java/lang/Integer", "bitCount", "(I)I"⟩, prog_8_method_49_code, 1, (some (.int)), 7, 1)
def m_S_approve : xm_M := (⟨"JobStates", "approve", "(III)I"⟩, prog_1_method_7_code, 6, (some (.int)), 4, 3)
def m_S_findTask : xm_M := (⟨"JobStates", "findTask", "(II)LJobStates$Task;"⟩, prog_1_method_20_code, 4, (some (.object "JobStates$Task")), 4, 2)
def m_S_findRun : xm_M := (⟨"JobStates", "findRun", "(I)LJobStates$Run;"⟩, prog_1_method_19_code, 2, (some (.object "JobStates$Run")), 4, 1)
def m_S_take : xm_M := (⟨"JobStates", "take", "(I)I"⟩, prog_1_method_8_code, 4, (some (.int)), 4, 1)
def m_S_findRunner : xm_M := (⟨"JobStates", "findRunner", "(I)LJobStates$Runner;"⟩, prog_1_method_21_code, 2, (some (.object "JobStates$Runner")), 4, 1)
def m_S_nextFor : xm_M := (⟨"JobStates", "nextFor", "(LJobStates$Runner;)LJobStates$Task;"⟩, prog_1_method_25_code, 5, (some (.object "JobStates$Task")), 4, 1)
def m_Run_firstReadyFor : xm_M := (⟨"JobStates$Run", "firstReadyFor", "(LJobStates$Runner;)LJobStates$Task;"⟩, prog_3_method_9_code, 3, (some (.object "JobStates$Task")), 1, 1)
def m_S_isServedBefore : xm_M := (⟨"JobStates", "isServedBefore", "(II)Z"⟩, prog_1_method_26_code, 5, (some (.boolean)), 4, 2)
def m_S_runningOf : xm_M := (⟨"JobStates", "runningOf", "(I)I"⟩, prog_1_method_27_code, 5, (some (.int)), 4, 1)
def m_Tsk_startOn : xm_M := (⟨"JobStates$Task", "startOn", "(LJobStates$Runner;I)V"⟩, prog_5_method_7_code, 3, none, 3, 2)
def m_Tsk_place : xm_M := (⟨"JobStates$Task", "place", "()I"⟩, prog_5_method_2_code, 1, (some (.int)), 3, 0)
def m_S_beat : xm_M := (⟨"JobStates", "beat", "(I)Z"⟩, prog_1_method_9_code, 3, (some (.boolean)), 4, 1)
def m_S_end : xm_M := (⟨"JobStates", "end", "(IZI)Z"⟩, prog_1_method_10_code, 6, (some (.boolean)), 4, 3)
def m_Tsk_finish : xm_M := (⟨"JobStates$Task", "finish", "(I)V"⟩, prog_5_method_9_code, 2, none, 3, 1)
def m_Tsk_failTry : xm_M := (⟨"JobStates$Task", "failTry", "()V"⟩, prog_5_method_10_code, 1, none, 3, 0)
def m_S_tick : xm_M := (⟨"JobStates", "tick", "(I)I"⟩, prog_1_method_11_code, 4, (some (.int)), 4, 1)
def m_S_isAnyRunnerBusy : xm_M := (⟨"JobStates", "isAnyRunnerBusy", "()Z"⟩, prog_1_method_28_code, 2, (some (.boolean)), 4, 0)
def m_S_checkRunners : xm_M := (⟨"JobStates", "checkRunners", "()V"⟩, prog_1_method_29_code, 3, none, 4, 0)
def m_Tsk_loseRunner : xm_M := (⟨"JobStates$Task", "loseRunner", "()V"⟩, prog_5_method_11_code, 1, none, 3, 0)
def m_Tsk_isPastLimit : xm_M := (⟨"JobStates$Task", "isPastLimit", "(I)Z"⟩, prog_5_method_5_code, 2, (some (.boolean)), 3, 1)
def m_S_cancel : xm_M := (⟨"JobStates", "cancel", "(I)Z"⟩, prog_1_method_12_code, 3, (some (.boolean)), 4, 1)
def m_S_again : xm_M := (⟨"JobStates", "again", "(I)I"⟩, prog_1_method_13_code, 4, (some (.int)), 4, 1)
def m_Run_redoFailed : xm_M := (⟨"JobStates$Run", "redoFailed", "()I"⟩, prog_3_method_6_code, 3, (some (.int)), 1, 0)
def m_Tsk_waitAgain : xm_M := (⟨"JobStates$Task", "waitAgain", "()V"⟩, prog_5_method_12_code, 1, none, 3, 0)
def m_S_state : xm_M := (⟨"JobStates", "state", "(II)I"⟩, prog_1_method_14_code, 4, (some (.int)), 4, 2)
def m_S_about : xm_M := (⟨"JobStates", "about", "(III)I"⟩, prog_1_method_15_code, 5, (some (.int)), 4, 3)
def m_Tsk_runnerNumber : xm_M := (⟨"JobStates$Task", "runnerNumber", "()I"⟩, prog_5_method_6_code, 1, (some (.int)), 3, 0)
def m_Run_artefactsFor : xm_M := (⟨"JobStates$Run", "artefactsFor", "(LJobStates$Job;)I"⟩, prog_3_method_10_code, 4, (some (.int)), 1, 1)
def m_S_verdict : xm_M := (⟨"JobStates", "verdict", "(I)I"⟩, prog_1_method_16_code, 3, (some (.int)), 4, 1)
def m_Run_judge : xm_M := (⟨"JobStates$Run", "judge", "()I"⟩, prog_3_method_4_code, 1, (some (.int)), 1, 0)
def m_Run_isAnyFailed : xm_M := (⟨"JobStates$Run", "isAnyFailed", "()Z"⟩, prog_3_method_3_code, 2, (some (.boolean)), 1, 0)
def m_S_has : xm_M := (⟨"JobStates", "has", "(I)I"⟩, prog_1_method_17_code, 4, (some (.int)), 4, 1)
def m_M_init : xm_M := (⟨"JobStatesModel", "<init>", "()V"⟩, prog_7_method_1_code, 1, none, 5, 0)
def m_M_job : xm_M := (⟨"JobStatesModel", "job", "(IIIZZ)I"⟩, prog_7_method_6_code, 6, (some (.int)), 5, 5)
def m_M_needs : xm_M := (⟨"JobStatesModel", "needs", "(II)Z"⟩, prog_7_method_7_code, 3, (some (.boolean)), 5, 2)
def m_M_isJob : xm_M := (⟨"JobStatesModel", "isJob", "(I)Z"⟩, prog_7_method_3_code, 2, (some (.boolean)), 5, 1)
def m_M_runner : xm_M := (⟨"JobStatesModel", "runner", "(I)I"⟩, prog_7_method_8_code, 2, (some (.int)), 5, 1)
def m_M_lost : xm_M := (⟨"JobStatesModel", "lost", "(I)Z"⟩, prog_7_method_9_code, 2, (some (.boolean)), 5, 1)
def m_M_trigger : xm_M := (⟨"JobStatesModel", "trigger", "(II)I"⟩, prog_7_method_18_code, 4, (some (.int)), 5, 2)
def m_M_isOver : xm_M := (⟨"JobStatesModel", "isOver", "(I)Z"⟩, prog_7_method_11_code, 4, (some (.boolean)), 5, 1)
def m_M_isEnd : xm_M := (⟨"JobStatesModel", "isEnd", "(I)Z"⟩, prog_7_method_10_code, 1, (some (.boolean)), 5, 1)
def m_M_stop : xm_M := (⟨"JobStatesModel", "stop", "(I)V"⟩, prog_7_method_17_code, 4, none, 5, 1)
def m_M_free : xm_M := (⟨"JobStatesModel", "free", "(I)V"⟩, prog_7_method_16_code, 3, none, 5, 1)
def m_M_settle : xm_M := (⟨"JobStatesModel", "settle", "()V"⟩, prog_7_method_14_code, 2, none, 5, 0)
def m_M_becomes : xm_M := (⟨"JobStatesModel", "becomes", "(II)I"⟩, prog_7_method_13_code, 6, (some (.int)), 5, 2)
def m_M_isApproved : xm_M := (⟨"JobStatesModel", "isApproved", "(I)Z"⟩, prog_7_method_12_code, 4, (some (.boolean)), 5, 1)
def m_M_approve : xm_M := (⟨"JobStatesModel", "approve", "(III)I"⟩, prog_7_method_20_code, 4, (some (.int)), 5, 3)
def m_M_isThere : xm_M := (⟨"JobStatesModel", "isThere", "(II)Z"⟩, prog_7_method_19_code, 3, (some (.boolean)), 5, 2)
def m_M_isRun : xm_M := (⟨"JobStatesModel", "isRun", "(I)Z"⟩, prog_7_method_4_code, 2, (some (.boolean)), 5, 1)
def m_M_take : xm_M := (⟨"JobStatesModel", "take", "(I)I"⟩, prog_7_method_22_code, 6, (some (.int)), 5, 1)
def m_M_isRunner : xm_M := (⟨"JobStatesModel", "isRunner", "(I)Z"⟩, prog_7_method_5_code, 2, (some (.boolean)), 5, 1)
def m_M_busy : xm_M := (⟨"JobStatesModel", "busy", "(I)I"⟩, prog_7_method_21_code, 4, (some (.int)), 5, 1)
def m_M_beat : xm_M := (⟨"JobStatesModel", "beat", "(I)Z"⟩, prog_7_method_23_code, 2, (some (.boolean)), 5, 1)
def m_M_end : xm_M := (⟨"JobStatesModel", "end", "(IZI)Z"⟩, prog_7_method_25_code, 5, (some (.boolean)), 5, 3)
def m_M_failTry : xm_M := (⟨"JobStatesModel", "failTry", "(I)V"⟩, prog_7_method_24_code, 2, none, 5, 1)
def m_M_tick : xm_M := (⟨"JobStatesModel", "tick", "(I)I"⟩, prog_7_method_27_code, 4, (some (.int)), 5, 1)
def m_M_pass : xm_M := (⟨"JobStatesModel", "pass", "(I)V"⟩, prog_7_method_26_code, 3, none, 5, 1)
def m_M_runnerOf : xm_M := (⟨"JobStatesModel", "runnerOf", "(I)I"⟩, prog_7_method_15_code, 4, (some (.int)), 5, 1)
def m_M_cancel : xm_M := (⟨"JobStatesModel", "cancel", "(I)Z"⟩, prog_7_method_28_code, 2, (some (.boolean)), 5, 1)
def m_M_again : xm_M := (⟨"JobStatesModel", "again", "(I)I"⟩, prog_7_method_29_code, 5, (some (.int)), 5, 1)
def m_M_state : xm_M := (⟨"JobStatesModel", "state", "(II)I"⟩, prog_7_method_30_code, 3, (some (.int)), 5, 2)
def m_M_about : xm_M := (⟨"JobStatesModel", "about", "(III)I"⟩, prog_7_method_31_code, 7, (some (.int)), 5, 3)
def m_M_verdict : xm_M := (⟨"JobStatesModel", "verdict", "(I)I"⟩, prog_7_method_32_code, 4, (some (.int)), 5, 1)
def m_M_has : xm_M := (⟨"JobStatesModel", "has", "(I)I"⟩, prog_7_method_33_code, 2, (some (.int)), 5, 1)
def m_L_law : xm_M := (⟨"JobStatesLaw", "law", "([I)Z"⟩, code, 4, (some (.boolean)), 6, 1)
end
section
/-! THE MACHINE OF PICTURES: a heap as a partial function from addresses to cells (objects by class number and fields, arrays by type number, length and contents), a frame as pc, locals, stack; a judgement xm_S over it, that says of the real machine what W says, for every caller. Its rows are xr_. -/
abbrev xm_E : Type := (Nat × List Value) ⊕ (Nat × Nat × (Nat → Value))
abbrev xm_H : Type := (Nat → Option xm_E) × Nat × Nat
abbrev xm_F : Type := Nat × List (Option Value) × List Value
/-- the facts by which the tables tell of a field, a class, a method that an instruction names: each is a row of part 03 -/
def xm_okF (o i ci k : Nat) : Prop := ∃ (C : String) (T : u_T) (N : Nat), xt_cl[ci]? = some (C, T, N) ∧ k < N ∧ Cond.fieldLink (xt_nm o) i (T k).1 (T k).2.1 (T k).2.2.1 ∈ xt_ws
def xm_okN (o i ci : Nat) : Prop := ∃ (C : String) (T : u_T) (N : Nat), xt_cl[ci]? = some (C, T, N) ∧ Cond.classLink (xt_nm o) i C ∈ xt_ws
def xm_okA (o i t : Nat) : Prop := ∃ C : String, xt_at[t]? = some (.object C) ∧ Cond.classLink (xt_nm o) i C ∈ xt_ws
def xm_okL (o i : Nat) (v : Int32) : Prop := Cond.constant (xt_nm o) i v ∈ xt_ws
def xm_okO (o i : Nat) : Prop := Cond.methodLink (xt_nm o) i objectInit ∈ xt_ws ∧ Cond.instanceMethod objectInit ∈ xt_ws ∧ Cond.code objectInit ⟨#[0xb1]⟩ 1 none ∈ xt_ws
def xm_okM (z : xm_M) : Prop := plainName (xt_y z).cls = true ∧ (xt_y z).cls = xt_nm (xt_own z) ∧ Cond.code (xt_y z) (xt_code z) (xt_maxL z) (xt_ret z) ∈ xt_ws ∧ Cond.initialized (xt_y z).cls ∈ xt_ws ∧ ((xt_y z).cls ≠ "java/lang/invoke/MethodHandle" ∧ (xt_y z).cls ≠ "java/lang/invoke/VarHandle" ∧ (parseMethodDescriptor (xt_y z).desc).map (fun d => d.parameters.length) = some (xt_np z)) ∧ xt_maxL z + 19 ≤ xt_LM
def xm_okV (o i : Nat) (z : xm_M) : Prop := xm_okM z ∧ Cond.methodLink (xt_nm o) i (xt_y z) ∈ xt_ws ∧ Cond.instanceMethod (xt_y z) ∈ xt_ws ∧ Cond.selects (xt_y z).cls (xt_y z) (xt_y z) ∈ xt_ws ∧ xt_np z + 1 ≤ xt_maxL z ∧ ∃ (T : u_T) (N : Nat), xt_cl[xt_own z]? = some (xt_nm (xt_own z), T, N)
def xm_okS (o i : Nat) (z : xm_M) : Prop := xm_okM z ∧ Cond.methodLink (xt_nm o) i (xt_y z) ∈ xt_ws ∧ Cond.static (xt_y z) ∈ xt_ws ∧ xt_np z ≤ xt_maxL z
def xm_okI (o i : Nat) (z : xm_M) : Prop := xm_okM z ∧ Cond.methodLink (xt_nm o) i (xt_y z) ∈ xt_ws ∧ Cond.instanceMethod (xt_y z) ∈ xt_ws ∧ (xt_y z).name = "<init>" ∧ xt_ret z = none ∧ xt_np z + 1 ≤ xt_maxL z
/-- what stays the same through the whole run: the launch, where the law's own cells begin, the script's address, length and ints, the classes' numbers and slots, the array classes' numbers -/
abbrev xm_G : Type := Launch × Nat × Nat × Nat × (Nat → Int32) × va_G × (Nat → ClassId)
abbrev xm_l (g : xm_G) : Launch := g.1
abbrev xm_N (g : xm_G) : Nat := g.2.1
abbrev xm_b (g : xm_G) : Nat := g.2.2.1
abbrev xm_n (g : xm_G) : Nat := g.2.2.2.1
abbrev xm_x (g : xm_G) : Nat → Int32 := g.2.2.2.2.1
abbrev xm_D (g : xm_G) : va_G := g.2.2.2.2.2.1
abbrev xm_A (g : xm_G) : Nat → ClassId := g.2.2.2.2.2.2
def xm_up (f : Nat → Option xm_E) (a : Nat) (e : xm_E) : Nat → Option xm_E := fun q => if q = a then some e else f q
theorem xm_up_self (f : Nat → Option xm_E) (a : Nat) (e : xm_E) : xm_up f a e a = some e := by simp [xm_up]
theorem xm_up_ne (f : Nat → Option xm_E) {a q : Nat} (e : xm_E) (h : q ≠ a) : xm_up f a e q = f q := by simp [xm_up, h]
/-- a cell of the real heap is as the picture says -/
def xm_at (g : xm_G) (a : Nat) (e : xm_E) (H : Heap) : Prop := match e with
  | .inl o => ∃ r : vw_C, xt_cl[o.1]? = some r ∧ o.2.length = r.2.2 ∧ t_OB a ((xm_D g).1 o.1) r.2.2 ((xm_D g).2 o.1) H (vp_V o.2)
  | .inr x => H[a]? = some (arrV (xm_A g x.1) x.2.1 x.2.2)
theorem xm_at.kept {g : xm_G} {a : Nat} {e : xm_E} {H H1 : Heap} (h : xm_at g a e H) (hq : H1[a]? = H[a]?) : xm_at g a e H1 := by
  cases e with
  | inl o =>
    obtain ⟨r, h1, h2, h3⟩ := h
    exact ⟨r, h1, h2, h3.kept hq⟩
  | inr x => exact hq.trans h
theorem xm_at.lt {g : xm_G} {a : Nat} {e : xm_E} {H : Heap} (h : xm_at g a e H) : a < H.size := by
  cases e with
  | inl o =>
    obtain ⟨r, h1, h2, cell, h3, -⟩ := h
    exact (Array.getElem?_eq_some_iff.mp h3).1
  | inr x => exact (Array.getElem?_eq_some_iff.mp h).1
def xm_R (g : xm_G) (h : xm_H) (U : State) (H : Heap) : Prop :=
  H.size = h.2.1 ∧ xm_N g ≤ H.size ∧ xm_b g < xm_N g ∧ va_X (xm_b g) (xm_n g) (xm_x g) U H ∧
  (∀ (a : Nat) (e : xm_E), h.1 a = some e → xm_N g ≤ a ∧ xm_at g a e H) ∧
  va_K (xm_D g) xt_cl [] U ∧ ∀ (t : Nat) (ty : FieldType), xt_at[t]? = some ty → ArrOfT U (xm_A g t) ty ∧ va_RA U (xm_A g t) ty ∧ ∀ C : String, ty = .object C → va_AO C U
theorem xm_R.moved {g : xm_G} {h : xm_H} {u U : State} {H : Heap} (hvm : u.vm.Alike U.vm) (hX : xm_R g h u H) : xm_R g h U H := by
  obtain ⟨h1, h2, h3, h4, h5, h6, h7⟩ := hX
  exact ⟨h1, h2, h3, h4.moved hvm, h5, h6.moved hvm, fun t ty ht => ⟨arrOfT_moved hvm (h7 t ty ht).1, (h7 t ty ht).2.1.moved hvm, fun C hC => ((h7 t ty ht).2.2 C hC).moved hvm⟩⟩
/-- one cell is written -/
theorem xm_R.set {g : xm_G} {h : xm_H} {U : State} {H H1 : Heap} {a : Nat} {e : xm_E} (hX : xm_R g h U H) (ha : xm_N g ≤ a) (he : xm_at g a e H1) (z : H1.size = H.size) (oq : ∀ q : Nat, q ≠ a → H1[q]? = H[q]?) : xm_R g (xm_up h.1 a e, h.2) U H1 := by
  obtain ⟨h1, h2, h3, h4, h5, h6, h7⟩ := hX
  refine ⟨by rw [z]; exact h1, by rw [z]; exact h2, h3, h4.kept (oq _ (by omega)), fun q e' hq => ?_, h6, h7⟩
  by_cases hqa : q = a
  · subst hqa
    rw [show (xm_up h.1 q e, h.2).1 q = some e from xm_up_self _ _ _] at hq
    cases hq
    exact ⟨ha, he⟩
  · rw [show (xm_up h.1 a e, h.2).1 q = h.1 q from xm_up_ne _ _ hqa] at hq
    obtain ⟨p1, p2⟩ := h5 q e' hq
    exact ⟨p1, p2.kept (oq q hqa)⟩
/-- one cell is made -/
theorem xm_R.push {g : xm_G} {h : xm_H} {U : State} {H H1 : Heap} {e : xm_E} {n : Nat} (hX : xm_R g h U H) (he : xm_at g h.2.1 e H1) (z : H1.size = H.size + 1) (oq : ∀ q : Nat, q < H.size → H1[q]? = H[q]?) : xm_R g (xm_up h.1 h.2.1 e, h.2.1 + 1, h.2.2 + n) U H1 := by
  obtain ⟨h1, h2, h3, h4, h5, h6, h7⟩ := hX
  refine ⟨by rw [z, h1], by rw [z]; omega, h3, h4.kept (oq _ (by omega)), fun q e' hq => ?_, h6, h7⟩
  by_cases hqa : q = h.2.1
  · rw [hqa, show (xm_up h.1 h.2.1 e, h.2.1 + 1, h.2.2 + n).1 h.2.1 = some e from xm_up_self _ _ _] at hq
    cases hq
    rw [hqa]
    exact ⟨by omega, he⟩
  · rw [show (xm_up h.1 h.2.1 e, h.2.1 + 1, h.2.2 + n).1 q = h.1 q from xm_up_ne _ _ hqa] at hq
    obtain ⟨p1, p2⟩ := h5 q e' hq
    exact ⟨p1, p2.kept (oq q p2.lt)⟩
theorem xm_R.obj {g : xm_G} {h : xm_H} {U : State} {H : Heap} {a ci : Nat} {fs : List Value} (hX : xm_R g h U H) (ha : h.1 a = some (.inl (ci, fs))) : xm_N g ≤ a ∧ va_P (xm_D g) xt_cl [(a, .inr (ci, fs))] H ∧ ∃ r : vw_C, xt_cl[ci]? = some r ∧ fs.length = r.2.2 := by
  obtain ⟨p1, r, q1, q2, q3⟩ := hX.2.2.2.2.1 a _ ha
  refine ⟨p1, fun k q hk => ?_, r, q1, q2⟩
  have hz : k < 1 := (List.getElem?_eq_some_iff.mp hk).1
  rw [show k = 0 by omega] at hk
  cases hk
  exact ⟨r, q1, q3⟩
theorem xm_R.arr {g : xm_G} {h : xm_H} {U : State} {H : Heap} {a t n : Nat} {f : Nat → Value} (hX : xm_R g h U H) (ha : h.1 a = some (.inr (t, n, f))) : xm_N g ≤ a ∧ H[a]? = some (arrV (xm_A g t) n f) := hX.2.2.2.2.1 a _ ha
/-- the locals -/
def xm_L (la : Array Slot) (ls : List (Option Value)) : Prop := la.size = ls.length ∧ lv_wf la ∧ ∀ (k : Nat) (v : Value), ls[k]? = some (some v) → la[k]? = some (.val v) ∧ v.category = 1
def xm_al (ls : List (Option Value)) : List (Nat × Value) := (List.range ls.length).filterMap fun k => match ls[k]? with
  | some (some v) => some (k, v)
  | _ => none
theorem xm_al_mem {ls : List (Option Value)} {q : Nat × Value} : q ∈ xm_al ls ↔ ls[q.1]? = some (some q.2) := by
  unfold xm_al
  rw [List.mem_filterMap]
  constructor
  · rintro ⟨k, -, h⟩
    split at h
    next v hv => cases h; exact hv
    next => cases h
  · intro h
    refine ⟨q.1, List.mem_range.mpr (List.getElem?_eq_some_iff.mp h).1, ?_⟩
    rw [h]
theorem xm_L.has {la : Array Slot} {ls : List (Option Value)} (h : xm_L la ls) : lv_has la ls.length (xm_al ls) := ⟨h.1, h.2.1, fun q hq => (h.2.2 q.1 q.2 (xm_al_mem.mp hq)).1⟩
theorem xm_L.of {la : Array Slot} {ls : List (Option Value)} {i : Nat} {v : Value} (h : xm_L la ls) (hc : v.category = 1) {la' : Array Slot} (hi : i < ls.length) (h' : lv_has la' ls.length ((i, v) :: (xm_al ls).filter (fun q => !(q.1 == i) && !(q.1 + 1 == i && q.2.category == 2)))) : xm_L la' (ls.set i (some v)) := by
  refine ⟨by rw [h'.1, List.length_set], h'.2.1, fun k w hk => ?_⟩
  by_cases hki : k = i
  · subst hki
    rw [List.getElem?_set_self hi] at hk
    cases hk
    exact ⟨h'.2.2 (k, v) List.mem_cons_self, hc⟩
  · rw [List.getElem?_set_ne (Ne.symm hki)] at hk
    obtain ⟨-, c1⟩ := h.2.2 k w hk
    refine ⟨h'.2.2 (k, w) (List.mem_cons_of_mem _ (List.mem_filter.mpr ⟨xm_al_mem.mpr hk, ?_⟩)), c1⟩
    simp [hki, c1]
/-- how a method ends -/
def xm_ret (y : xm_M) (I : Jvm.ClassFile.Instr) (st : List Value) (r : Option Value) : Prop :=
  (I = .ireturn ∧ ∃ (v : Int32) (ty : FieldType), st = [.int v] ∧ r = some (.int v) ∧ xt_ret y = some ty ∧ narrow ty (.int v) = .int v) ∨
  (I = .return_ ∧ st = [] ∧ r = none ∧ xt_ret y = none) ∨
  (I = .areturn ∧ ∃ (v : Value) (ty : FieldType), st = [v] ∧ r = some v ∧ xt_ret y = some ty ∧ ((∃ n, ty = .object n) ∨ ∃ t, ty = .array t) ∧ (v = .null ∨ ∃ a, v = .ref a))
def xm_C (p : Program) (s : State) (m : MethodId) (args : Array Value) (meth : Method) (c : Code) (y : xm_M) : Prop :=
  p.tables.exec = Jvm.exec ∧ c.code = xt_code y ∧ meth.sig.returnType = xt_ret y ∧ c.maxLocals = xt_maxL y ∧ s.vm.findClass (xt_nm (xt_own y)) = some m.cls ∧ (∀ w ∈ xt_ws, w.before args s = true) ∧ meth.locks = false ∧ ((xt_y y).name = "<init>" → meth.name = "<init>")
/-- THE JUDGEMENT: method y, d calls deep at most, from the frame f and the picture h, ends with an answer and a picture of which Q holds -/
def xm_S (g : xm_G) (d : Nat) (y : xm_M) (f : xm_F) (h : xm_H) (Q : Option Value → xm_H → Prop) : Prop :=
  ∃ (r : Option Value) (h' : xm_H), Q r h' ∧ h.2.1 ≤ h'.2.1 ∧ h.2.2 ≤ h'.2.2 ∧ f.2.1.length = xt_maxL y ∧
  ∀ (p : Program) (e : Env) (R : Room) (s : State) (m : MethodId) (args : Array Value) (below : List Frame) (meth : Method) (c : Code) (H : Heap) (locs : List Loc) (cells slots : Nat) (Z : State → Prop) (la : Array Slot),
    xm_C p s m args meth c y → (d ≤ R.frames ∧ d * xt_LM ≤ R.locals ∧ cells + (h'.2.1 - h.2.1) ≤ R.cells ∧ slots + (h'.2.2 - h.2.2) ≤ R.slots) →
    xm_R g h s H → va_S (fun q => xm_N g ≤ q) s.heap H locs → xm_L la f.2.1 →
    (∀ (pc' : Nat) (la' : Array Slot) (H' : Heap) (locs' : List Loc) (I : Jvm.ClassFile.Instr) (st' : List Value), decode (xt_code y) pc' = .ok (I, 1) → xm_ret y I st' r → xm_R g h' s H' → va_S (fun q => xm_N g ≤ q) s.heap H' locs' →
      W p (xm_l g) e R s m args below meth c H' locs' (cells + (h'.2.1 - h.2.1)) (slots + (h'.2.2 - h.2.2)) Z (F0 m pc' la' st')) →
    W p (xm_l g) e R s m args below meth c H locs cells slots Z (F0 m f.1 la f.2.2)
theorem xm_S.imp {g : xm_G} {d : Nat} {y : xm_M} {f : xm_F} {h : xm_H} {Q Q' : Option Value → xm_H → Prop} (hS : xm_S g d y f h Q) (hQ : ∀ r h', Q r h' → Q' r h') : xm_S g d y f h Q' := by
  obtain ⟨r, h', hq, k⟩ := hS
  exact ⟨r, h', hQ r h' hq, k⟩
theorem xm_S.up {g : xm_G} {d d' : Nat} {y : xm_M} {f : xm_F} {h : xm_H} {Q : Option Value → xm_H → Prop} (hd : d ≤ d') (hS : xm_S g d y f h Q) : xm_S g d' y f h Q := by
  obtain ⟨r, h', hq, h1, h2, h3, k⟩ := hS
  exact ⟨r, h', hq, h1, h2, h3, fun p e R s m args below meth c H locs cells slots Z la C hR => k p e R s m args below meth c H locs cells slots Z la C ⟨Nat.le_trans hd hR.1, Nat.le_trans (Nat.mul_le_mul_right _ hd) hR.2.1, hR.2.2⟩⟩
/-- an instruction that changes the frame alone, and of the locals nothing -/
theorem xm_pure {g : xm_G} {d pc pc' : Nat} {y : xm_M} {ls : List (Option Value)} {st st' : List Value} {h : xm_H} {Q : Option Value → xm_H → Prop}
    (hw : ∀ (p : Program) (e : Env) (R : Room) (s : State) (m : MethodId) (args : Array Value) (below : List Frame) (meth : Method) (c : Code) (H : Heap) (locs : List Loc) (cells slots : Nat) (Z : State → Prop) (la : Array Slot), xm_C p s m args meth c y → xm_R g h s H → xm_L la ls → W p (xm_l g) e R s m args below meth c H locs cells slots Z (F0 m pc' la st') → W p (xm_l g) e R s m args below meth c H locs cells slots Z (F0 m pc la st))
    (K : xm_S g d y (pc', ls, st') h Q) : xm_S g d y (pc, ls, st) h Q := by
  obtain ⟨r, h', hq, h1, h2, h3, k⟩ := K
  exact ⟨r, h', hq, h1, h2, h3, fun p e R s m args below meth c H locs cells slots Z la C hR hX hS hl kr => hw p e R s m args below meth c H locs cells slots Z la C hX hl (k p e R s m args below meth c H locs cells slots Z la C hR hX hS hl kr)⟩
end
section
/-! rows of the frame alone: an instruction a row -/
theorem xr_null {g : xm_G} {d pc : Nat} {y : xm_M} {ls : List (Option Value)} {st : List Value} {h : xm_H} {Q : Option Value → xm_H → Prop}  (hd : decode (xt_code y) pc = .ok (.aconst_null, 1))  (K : xm_S g d y (pc + 1, ls, .null :: st) h Q) : xm_S g d y (pc, ls, st) h Q :=
  xm_pure (fun _ _ _ _ _ _ _ _ _ _ _ _ _ _ _ C hX hl k => lv_null C.1 C.2.1 hd k) K
theorem xr_iconst {g : xm_G} {d pc : Nat} {y : xm_M} {ls : List (Option Value)} {st : List Value} {h : xm_H} {Q : Option Value → xm_H → Prop} {n : Int} {v : Int32}  (hd : decode (xt_code y) pc = .ok (.iconst n, 1)) (hv : Int32.ofInt n = v) (K : xm_S g d y (pc + 1, ls, .int v :: st) h Q) : xm_S g d y (pc, ls, st) h Q :=
  xm_pure (fun _ _ _ _ _ _ _ _ _ _ _ _ _ _ _ C hX hl k => lv_iconst C.1 C.2.1 hd hv k) K
theorem xr_bipush {g : xm_G} {d pc : Nat} {y : xm_M} {ls : List (Option Value)} {st : List Value} {h : xm_H} {Q : Option Value → xm_H → Prop} {n : Int} {v : Int32}  (hd : decode (xt_code y) pc = .ok (.bipush n, 2)) (hv : (Int8.ofInt n).toInt32 = v) (K : xm_S g d y (pc + 2, ls, .int v :: st) h Q) : xm_S g d y (pc, ls, st) h Q :=
  xm_pure (fun _ _ _ _ _ _ _ _ _ _ _ _ _ _ _ C hX hl k => lv_bipush C.1 C.2.1 hd hv k) K
theorem xr_sipush {g : xm_G} {d pc : Nat} {y : xm_M} {ls : List (Option Value)} {st : List Value} {h : xm_H} {Q : Option Value → xm_H → Prop} {n : Int} {v : Int32}  (hd : decode (xt_code y) pc = .ok (.sipush n, 3)) (hv : (Int16.ofInt n).toInt32 = v) (K : xm_S g d y (pc + 3, ls, .int v :: st) h Q) : xm_S g d y (pc, ls, st) h Q :=
  xm_pure (fun _ _ _ _ _ _ _ _ _ _ _ _ _ _ _ C hX hl k => lv_sipush C.1 C.2.1 hd hv k) K
theorem xr_ldc {g : xm_G} {d pc : Nat} {y : xm_M} {ls : List (Option Value)} {st : List Value} {h : xm_H} {Q : Option Value → xm_H → Prop} {i : Nat} {v : Int32}  (hd : decode (xt_code y) pc = .ok (.ldc i, 2)) (hv : xm_okL (xt_own y) i v) (K : xm_S g d y (pc + 2, ls, .int v :: st) h Q) : xm_S g d y (pc, ls, st) h Q :=
  xm_pure (fun _ _ _ _ _ _ _ _ _ _ _ _ _ _ _ C hX hl k => lv_ldc C.1 C.2.1 C.2.2.2.2.1 (C.2.2.2.2.2.1 _ hv) hd k) K
theorem xr_iload {g : xm_G} {d pc : Nat} {y : xm_M} {ls : List (Option Value)} {st : List Value} {h : xm_H} {Q : Option Value → xm_H → Prop} {i : Nat} {x : Int32}  (hd : decode (xt_code y) pc = .ok (.iload i, 2)) (hv : ls[i]? = some (some (.int x))) (K : xm_S g d y (pc + 2, ls, .int x :: st) h Q) : xm_S g d y (pc, ls, st) h Q :=
  xm_pure (fun _ _ _ _ _ _ _ _ _ _ _ _ _ _ _ C hX hl k => lv_iload C.1 C.2.1 hd (hl.2.2 _ _ hv).1 k) K
theorem xr_iload_n {g : xm_G} {d pc : Nat} {y : xm_M} {ls : List (Option Value)} {st : List Value} {h : xm_H} {Q : Option Value → xm_H → Prop} {i : Fin 4} {x : Int32}  (hd : decode (xt_code y) pc = .ok (.iload_n i, 1)) (hv : ls[(i : Nat)]? = some (some (.int x))) (K : xm_S g d y (pc + 1, ls, .int x :: st) h Q) : xm_S g d y (pc, ls, st) h Q :=
  xm_pure (fun _ _ _ _ _ _ _ _ _ _ _ _ _ _ _ C hX hl k => lv_iload_n C.1 C.2.1 hd rfl (hl.2.2 _ _ hv).1 k) K
theorem xr_aload {g : xm_G} {d pc : Nat} {y : xm_M} {ls : List (Option Value)} {st : List Value} {h : xm_H} {Q : Option Value → xm_H → Prop} {i : Nat} {x : Nat}  (hd : decode (xt_code y) pc = .ok (.aload i, 2)) (hv : ls[i]? = some (some (.ref x))) (K : xm_S g d y (pc + 2, ls, .ref x :: st) h Q) : xm_S g d y (pc, ls, st) h Q :=
  xm_pure (fun _ _ _ _ _ _ _ _ _ _ _ _ _ _ _ C hX hl k => lv_aload C.1 C.2.1 hd (hl.2.2 _ _ hv).1 k) K
theorem xr_aload_n {g : xm_G} {d pc : Nat} {y : xm_M} {ls : List (Option Value)} {st : List Value} {h : xm_H} {Q : Option Value → xm_H → Prop} {i : Fin 4} {x : Nat}  (hd : decode (xt_code y) pc = .ok (.aload_n i, 1)) (hv : ls[(i : Nat)]? = some (some (.ref x))) (K : xm_S g d y (pc + 1, ls, .ref x :: st) h Q) : xm_S g d y (pc, ls, st) h Q :=
  xm_pure (fun _ _ _ _ _ _ _ _ _ _ _ _ _ _ _ C hX hl k => lv_aload_n C.1 C.2.1 hd rfl (hl.2.2 _ _ hv).1 k) K
theorem xr_aloadN {g : xm_G} {d pc : Nat} {y : xm_M} {ls : List (Option Value)} {st : List Value} {h : xm_H} {Q : Option Value → xm_H → Prop} {i : Nat}  (hd : decode (xt_code y) pc = .ok (.aload i, 2)) (hv : ls[i]? = some (some .null)) (K : xm_S g d y (pc + 2, ls, .null :: st) h Q) : xm_S g d y (pc, ls, st) h Q :=
  xm_pure (fun _ _ _ _ _ _ _ _ _ _ _ _ _ _ _ C hX hl k => lv_aloadN C.1 C.2.1 hd (hl.2.2 _ _ hv).1 k) K
theorem xr_aload_nN {g : xm_G} {d pc : Nat} {y : xm_M} {ls : List (Option Value)} {st : List Value} {h : xm_H} {Q : Option Value → xm_H → Prop} {i : Fin 4}  (hd : decode (xt_code y) pc = .ok (.aload_n i, 1)) (hv : ls[(i : Nat)]? = some (some .null)) (K : xm_S g d y (pc + 1, ls, .null :: st) h Q) : xm_S g d y (pc, ls, st) h Q :=
  xm_pure (fun _ _ _ _ _ _ _ _ _ _ _ _ _ _ _ C hX hl k => lv_aload_nN C.1 C.2.1 hd rfl (hl.2.2 _ _ hv).1 k) K
theorem xr_iadd {g : xm_G} {d pc : Nat} {y : xm_M} {ls : List (Option Value)} {st : List Value} {h : xm_H} {Q : Option Value → xm_H → Prop} {x z : Int32} (hd : decode (xt_code y) pc = .ok (.iadd, 1))  (K : xm_S g d y (pc + 1, ls, .int (x + z) :: st) h Q) : xm_S g d y (pc, ls, .int z :: .int x :: st) h Q :=
  xm_pure (fun _ _ _ _ _ _ _ _ _ _ _ _ _ _ _ C hX hl k => lv_iadd C.1 C.2.1 hd k) K
theorem xr_isub {g : xm_G} {d pc : Nat} {y : xm_M} {ls : List (Option Value)} {st : List Value} {h : xm_H} {Q : Option Value → xm_H → Prop} {x z : Int32} (hd : decode (xt_code y) pc = .ok (.isub, 1))  (K : xm_S g d y (pc + 1, ls, .int (x - z) :: st) h Q) : xm_S g d y (pc, ls, .int z :: .int x :: st) h Q :=
  xm_pure (fun _ _ _ _ _ _ _ _ _ _ _ _ _ _ _ C hX hl k => lv_isub C.1 C.2.1 hd k) K
theorem xr_imul {g : xm_G} {d pc : Nat} {y : xm_M} {ls : List (Option Value)} {st : List Value} {h : xm_H} {Q : Option Value → xm_H → Prop} {x z : Int32} (hd : decode (xt_code y) pc = .ok (.imul, 1))  (K : xm_S g d y (pc + 1, ls, .int (x * z) :: st) h Q) : xm_S g d y (pc, ls, .int z :: .int x :: st) h Q :=
  xm_pure (fun _ _ _ _ _ _ _ _ _ _ _ _ _ _ _ C hX hl k => lv_imul C.1 C.2.1 hd k) K
theorem xr_iand {g : xm_G} {d pc : Nat} {y : xm_M} {ls : List (Option Value)} {st : List Value} {h : xm_H} {Q : Option Value → xm_H → Prop} {x z : Int32} (hd : decode (xt_code y) pc = .ok (.iand, 1))  (K : xm_S g d y (pc + 1, ls, .int (x &&& z) :: st) h Q) : xm_S g d y (pc, ls, .int z :: .int x :: st) h Q :=
  xm_pure (fun _ _ _ _ _ _ _ _ _ _ _ _ _ _ _ C hX hl k => lv_iand C.1 C.2.1 hd k) K
theorem xr_ior {g : xm_G} {d pc : Nat} {y : xm_M} {ls : List (Option Value)} {st : List Value} {h : xm_H} {Q : Option Value → xm_H → Prop} {x z : Int32} (hd : decode (xt_code y) pc = .ok (.ior, 1))  (K : xm_S g d y (pc + 1, ls, .int (x ||| z) :: st) h Q) : xm_S g d y (pc, ls, .int z :: .int x :: st) h Q :=
  xm_pure (fun _ _ _ _ _ _ _ _ _ _ _ _ _ _ _ C hX hl k => lv_ior C.1 C.2.1 hd k) K
theorem xr_ixor {g : xm_G} {d pc : Nat} {y : xm_M} {ls : List (Option Value)} {st : List Value} {h : xm_H} {Q : Option Value → xm_H → Prop} {x z : Int32} (hd : decode (xt_code y) pc = .ok (.ixor, 1))  (K : xm_S g d y (pc + 1, ls, .int (x ^^^ z) :: st) h Q) : xm_S g d y (pc, ls, .int z :: .int x :: st) h Q :=
  xm_pure (fun _ _ _ _ _ _ _ _ _ _ _ _ _ _ _ C hX hl k => lv_ixor C.1 C.2.1 hd k) K
theorem xr_ishl {g : xm_G} {d pc : Nat} {y : xm_M} {ls : List (Option Value)} {st : List Value} {h : xm_H} {Q : Option Value → xm_H → Prop} {x z : Int32} (hd : decode (xt_code y) pc = .ok (.ishl, 1))  (K : xm_S g d y (pc + 1, ls, .int (x <<< (z &&& 31)) :: st) h Q) : xm_S g d y (pc, ls, .int z :: .int x :: st) h Q :=
  xm_pure (fun _ _ _ _ _ _ _ _ _ _ _ _ _ _ _ C hX hl k => lv_ishl C.1 C.2.1 hd k) K
theorem xr_ishr {g : xm_G} {d pc : Nat} {y : xm_M} {ls : List (Option Value)} {st : List Value} {h : xm_H} {Q : Option Value → xm_H → Prop} {x z : Int32} (hd : decode (xt_code y) pc = .ok (.ishr, 1))  (K : xm_S g d y (pc + 1, ls, .int (x >>> (z &&& 31)) :: st) h Q) : xm_S g d y (pc, ls, .int z :: .int x :: st) h Q :=
  xm_pure (fun _ _ _ _ _ _ _ _ _ _ _ _ _ _ _ C hX hl k => lv_ishr C.1 C.2.1 hd k) K
theorem xr_iushr {g : xm_G} {d pc : Nat} {y : xm_M} {ls : List (Option Value)} {st : List Value} {h : xm_H} {Q : Option Value → xm_H → Prop} {x z : Int32} (hd : decode (xt_code y) pc = .ok (.iushr, 1))  (K : xm_S g d y (pc + 1, ls, .int (x.toUInt32 >>> (z.toUInt32 &&& Int32.toUInt32 31)).toInt32 :: st) h Q) : xm_S g d y (pc, ls, .int z :: .int x :: st) h Q :=
  xm_pure (fun _ _ _ _ _ _ _ _ _ _ _ _ _ _ _ C hX hl k => lv_iushr C.1 C.2.1 hd rfl k) K
theorem xr_idiv {g : xm_G} {d pc : Nat} {y : xm_M} {ls : List (Option Value)} {st : List Value} {h : xm_H} {Q : Option Value → xm_H → Prop} {x z : Int32}  (hd : decode (xt_code y) pc = .ok (.idiv, 1)) (hz : ¬ z = 0) (K : xm_S g d y (pc + 1, ls, .int (x / z) :: st) h Q) : xm_S g d y (pc, ls, .int z :: .int x :: st) h Q :=
  xm_pure (fun _ _ _ _ _ _ _ _ _ _ _ _ _ _ _ C hX hl k => lv_idiv C.1 C.2.1 hd hz k) K
theorem xr_irem {g : xm_G} {d pc : Nat} {y : xm_M} {ls : List (Option Value)} {st : List Value} {h : xm_H} {Q : Option Value → xm_H → Prop} {x z : Int32}  (hd : decode (xt_code y) pc = .ok (.irem, 1)) (hz : ¬ z = 0) (K : xm_S g d y (pc + 1, ls, .int (x - x / z * z) :: st) h Q) : xm_S g d y (pc, ls, .int z :: .int x :: st) h Q :=
  xm_pure (fun _ _ _ _ _ _ _ _ _ _ _ _ _ _ _ C hX hl k => lv_irem C.1 C.2.1 hd hz k) K
theorem xr_ineg {g : xm_G} {d pc : Nat} {y : xm_M} {ls : List (Option Value)} {st : List Value} {h : xm_H} {Q : Option Value → xm_H → Prop} {x : Int32} (hd : decode (xt_code y) pc = .ok (.ineg, 1))  (K : xm_S g d y (pc + 1, ls, .int (-x) :: st) h Q) : xm_S g d y (pc, ls, .int x :: st) h Q :=
  xm_pure (fun _ _ _ _ _ _ _ _ _ _ _ _ _ _ _ C hX hl k => lv_ineg C.1 C.2.1 hd k) K
theorem xr_dup {g : xm_G} {d pc : Nat} {y : xm_M} {ls : List (Option Value)} {st : List Value} {h : xm_H} {Q : Option Value → xm_H → Prop} {v : Value}  (hd : decode (xt_code y) pc = .ok (.dup, 1)) (hv : v.category = 1) (K : xm_S g d y (pc + 1, ls, v :: v :: st) h Q) : xm_S g d y (pc, ls, v :: st) h Q :=
  xm_pure (fun _ _ _ _ _ _ _ _ _ _ _ _ _ _ _ C hX hl k => lv_dup C.1 C.2.1 hd hv k) K
theorem xr_pop {g : xm_G} {d pc : Nat} {y : xm_M} {ls : List (Option Value)} {st : List Value} {h : xm_H} {Q : Option Value → xm_H → Prop} {v : Value}  (hd : decode (xt_code y) pc = .ok (.pop, 1)) (hv : v.category = 1) (K : xm_S g d y (pc + 1, ls, st) h Q) : xm_S g d y (pc, ls, v :: st) h Q :=
  xm_pure (fun _ _ _ _ _ _ _ _ _ _ _ _ _ _ _ C hX hl k => lv_pop C.1 C.2.1 hd hv k) K
theorem xr_dup_x1 {g : xm_G} {d pc : Nat} {y : xm_M} {ls : List (Option Value)} {st : List Value} {h : xm_H} {Q : Option Value → xm_H → Prop} {v w : Value}  (hd : decode (xt_code y) pc = .ok (.dup_x1, 1)) (hv : v.category = 1) (hw : w.category = 1) (K : xm_S g d y (pc + 1, ls, v :: w :: v :: st) h Q) : xm_S g d y (pc, ls, v :: w :: st) h Q :=
  xm_pure (fun _ _ _ _ _ _ _ _ _ _ _ _ _ _ _ C hX hl k => lv_dup_x1 C.1 C.2.1 hd hv hw k) K
theorem xr_dup_x2 {g : xm_G} {d pc : Nat} {y : xm_M} {ls : List (Option Value)} {st : List Value} {h : xm_H} {Q : Option Value → xm_H → Prop} {v w u : Value}  (hd : decode (xt_code y) pc = .ok (.dup_x2, 1)) (hv : v.category = 1) (hw : w.category = 1) (hu : u.category = 1) (K : xm_S g d y (pc + 1, ls, v :: w :: u :: v :: st) h Q) : xm_S g d y (pc, ls, v :: w :: u :: st) h Q :=
  xm_pure (fun _ _ _ _ _ _ _ _ _ _ _ _ _ _ _ C hX hl k => lv_dup_x2 C.1 C.2.1 hd hv hw hu k) K
theorem xr_dup2 {g : xm_G} {d pc : Nat} {y : xm_M} {ls : List (Option Value)} {st : List Value} {h : xm_H} {Q : Option Value → xm_H → Prop} {v w : Value}  (hd : decode (xt_code y) pc = .ok (.dup2, 1)) (hv : v.category = 1) (hw : w.category = 1) (K : xm_S g d y (pc + 1, ls, v :: w :: v :: w :: st) h Q) : xm_S g d y (pc, ls, v :: w :: st) h Q :=
  xm_pure (fun _ _ _ _ _ _ _ _ _ _ _ _ _ _ _ C hX hl k => lv_dup2_11 C.1 C.2.1 hd hv hw k) K
theorem xr_goto {g : xm_G} {d pc : Nat} {y : xm_M} {ls : List (Option Value)} {st : List Value} {h : xm_H} {Q : Option Value → xm_H → Prop} {off : Int} {tgt : Nat}  (hd : decode (xt_code y) pc = .ok (.goto off, 3)) (ht : (pc : Int) + off = (tgt : Int)) (K : xm_S g d y (tgt, ls, st) h Q) : xm_S g d y (pc, ls, st) h Q :=
  xm_pure (fun _ _ _ _ _ _ _ _ _ _ _ _ _ _ _ C hX hl k => lv_goto C.1 C.2.1 hd ht k) K
theorem xr_ifnullN {g : xm_G} {d pc : Nat} {y : xm_M} {ls : List (Option Value)} {st : List Value} {h : xm_H} {Q : Option Value → xm_H → Prop} {off : Int} {tgt : Nat}  (hd : decode (xt_code y) pc = .ok (.ifnull off, 3)) (ht : (pc : Int) + off = (tgt : Int)) (K : xm_S g d y (tgt, ls, st) h Q) : xm_S g d y (pc, ls, .null :: st) h Q :=
  xm_pure (fun _ _ _ _ _ _ _ _ _ _ _ _ _ _ _ C hX hl k => lv_ifnullN C.1 C.2.1 hd ht k) K
theorem xr_ifnull {g : xm_G} {d pc : Nat} {y : xm_M} {ls : List (Option Value)} {st : List Value} {h : xm_H} {Q : Option Value → xm_H → Prop} {off : Int} {x : Nat} (hd : decode (xt_code y) pc = .ok (.ifnull off, 3))  (K : xm_S g d y (pc + 3, ls, st) h Q) : xm_S g d y (pc, ls, .ref x :: st) h Q :=
  xm_pure (fun _ _ _ _ _ _ _ _ _ _ _ _ _ _ _ C hX hl k => lv_ifnull C.1 C.2.1 hd k) K
theorem xr_ifnonnullN {g : xm_G} {d pc : Nat} {y : xm_M} {ls : List (Option Value)} {st : List Value} {h : xm_H} {Q : Option Value → xm_H → Prop} {off : Int} (hd : decode (xt_code y) pc = .ok (.ifnonnull off, 3))  (K : xm_S g d y (pc + 3, ls, st) h Q) : xm_S g d y (pc, ls, .null :: st) h Q :=
  xm_pure (fun _ _ _ _ _ _ _ _ _ _ _ _ _ _ _ C hX hl k => lv_ifnonnullN C.1 C.2.1 hd k) K
theorem xr_ifnonnull {g : xm_G} {d pc : Nat} {y : xm_M} {ls : List (Option Value)} {st : List Value} {h : xm_H} {Q : Option Value → xm_H → Prop} {off : Int} {tgt x : Nat}  (hd : decode (xt_code y) pc = .ok (.ifnonnull off, 3)) (ht : (pc : Int) + off = (tgt : Int)) (K : xm_S g d y (tgt, ls, st) h Q) : xm_S g d y (pc, ls, .ref x :: st) h Q :=
  xm_pure (fun _ _ _ _ _ _ _ _ _ _ _ _ _ _ _ C hX hl k => lv_ifnonnull C.1 C.2.1 hd ht k) K
theorem xr_tableOut {g : xm_G} {d pc : Nat} {y : xm_M} {ls : List (Option Value)} {st : List Value} {h : xm_H} {Q : Option Value → xm_H → Prop} {dflt lo hi : Int} {offs : Array Int} {len : Nat} {x : Int32} {tgt : Nat}  (hd : decode (xt_code y) pc = .ok (.tableswitch dflt lo hi offs, len)) (hx : x.toInt < lo ∨ hi < x.toInt) (ht : (pc : Int) + dflt = (tgt : Int)) (K : xm_S g d y (tgt, ls, st) h Q) : xm_S g d y (pc, ls, .int x :: st) h Q :=
  xm_pure (fun _ _ _ _ _ _ _ _ _ _ _ _ _ _ _ C hX hl k => lv_tableOut C.1 C.2.1 hd hx ht k) K
theorem xr_tableIn {g : xm_G} {d pc : Nat} {y : xm_M} {ls : List (Option Value)} {st : List Value} {h : xm_H} {Q : Option Value → xm_H → Prop} {dflt lo hi : Int} {offs : Array Int} {len : Nat} {x : Int32} {off : Int} {tgt : Nat}  (hd : decode (xt_code y) pc = .ok (.tableswitch dflt lo hi offs, len)) (h1 : ¬ x.toInt < lo) (h2 : ¬ hi < x.toInt) (ho : offs[(x.toInt - lo).toNat]? = some off) (ht : (pc : Int) + off = (tgt : Int)) (K : xm_S g d y (tgt, ls, st) h Q) : xm_S g d y (pc, ls, .int x :: st) h Q :=
  xm_pure (fun _ _ _ _ _ _ _ _ _ _ _ _ _ _ _ C hX hl k => lv_tableIn C.1 C.2.1 hd h1 h2 ho ht k) K
theorem xr_lookup {g : xm_G} {d pc : Nat} {y : xm_M} {ls : List (Option Value)} {st : List Value} {h : xm_H} {Q : Option Value → xm_H → Prop} {dflt : Int} {ps : Array (Int × Int)} {len : Nat} {x : Int32} {off : Int} {tgt : Nat}  (hd : decode (xt_code y) pc = .ok (.lookupswitch dflt ps, len)) (hp : (ps.toList.zip (ps.toList.drop 1)).all (fun (a, next) => a.1 < next.1) = true) (ho : Op.lookupswitch.offset ps.toList dflt x.toInt = off) (ht : (pc : Int) + off = (tgt : Int)) (K : xm_S g d y (tgt, ls, st) h Q) : xm_S g d y (pc, ls, .int x :: st) h Q :=
  xm_pure (fun _ _ _ _ _ _ _ _ _ _ _ _ _ _ _ C hX hl k => lv_lookup C.1 C.2.1 hd hp ho ht k) K
theorem xr_icmp_eq {g : xm_G} {d pc : Nat} {y : xm_M} {ls : List (Option Value)} {st : List Value} {h : xm_H} {Q : Option Value → xm_H → Prop} {x z : Int32} {off : Int} {tgt : Nat} (hd : decode (xt_code y) pc = .ok (.if_icmp .eq off, 3)) (ht : (pc : Int) + off = (tgt : Int)) (kt : x = z → xm_S g d y (tgt, ls, st) h Q) (kf : ¬ x = z → xm_S g d y (pc + 3, ls, st) h Q) : xm_S g d y (pc, ls, .int z :: .int x :: st) h Q := by
  by_cases hc : x = z
  · exact xm_pure (fun _ _ _ _ _ _ _ _ _ _ _ _ _ _ _ C hX hl k => lv_icmp_eq C.1 C.2.1 hd ht (fun _ => k) (fun n => absurd hc (by simpa using n))) (kt hc)
  · exact xm_pure (fun _ _ _ _ _ _ _ _ _ _ _ _ _ _ _ C hX hl k => lv_icmp_eq C.1 C.2.1 hd ht (fun n => absurd n hc) (fun _ => k)) (kf (by simpa using hc))
theorem xr_if_eq {g : xm_G} {d pc : Nat} {y : xm_M} {ls : List (Option Value)} {st : List Value} {h : xm_H} {Q : Option Value → xm_H → Prop} {x : Int32} {off : Int} {tgt : Nat} (hd : decode (xt_code y) pc = .ok (.ifCond .eq off, 3)) (ht : (pc : Int) + off = (tgt : Int)) (kt : x = 0 → xm_S g d y (tgt, ls, st) h Q) (kf : ¬ x = 0 → xm_S g d y (pc + 3, ls, st) h Q) : xm_S g d y (pc, ls, .int x :: st) h Q := by
  by_cases hc : x = 0
  · exact xm_pure (fun _ _ _ _ _ _ _ _ _ _ _ _ _ _ _ C hX hl k => lv_if_eq C.1 C.2.1 hd ht (fun _ => k) (fun n => absurd hc (by simpa using n))) (kt hc)
  · exact xm_pure (fun _ _ _ _ _ _ _ _ _ _ _ _ _ _ _ C hX hl k => lv_if_eq C.1 C.2.1 hd ht (fun n => absurd n hc) (fun _ => k)) (kf (by simpa using hc))
theorem xr_icmp_ne {g : xm_G} {d pc : Nat} {y : xm_M} {ls : List (Option Value)} {st : List Value} {h : xm_H} {Q : Option Value → xm_H → Prop} {x z : Int32} {off : Int} {tgt : Nat} (hd : decode (xt_code y) pc = .ok (.if_icmp .ne off, 3)) (ht : (pc : Int) + off = (tgt : Int)) (kt : ¬ x = z → xm_S g d y (tgt, ls, st) h Q) (kf : x = z → xm_S g d y (pc + 3, ls, st) h Q) : xm_S g d y (pc, ls, .int z :: .int x :: st) h Q := by
  by_cases hc : ¬ x = z
  · exact xm_pure (fun _ _ _ _ _ _ _ _ _ _ _ _ _ _ _ C hX hl k => lv_icmp_ne C.1 C.2.1 hd ht (fun _ => k) (fun n => absurd hc (by simpa using n))) (kt hc)
  · exact xm_pure (fun _ _ _ _ _ _ _ _ _ _ _ _ _ _ _ C hX hl k => lv_icmp_ne C.1 C.2.1 hd ht (fun n => absurd n hc) (fun _ => k)) (kf (by simpa using hc))
theorem xr_if_ne {g : xm_G} {d pc : Nat} {y : xm_M} {ls : List (Option Value)} {st : List Value} {h : xm_H} {Q : Option Value → xm_H → Prop} {x : Int32} {off : Int} {tgt : Nat} (hd : decode (xt_code y) pc = .ok (.ifCond .ne off, 3)) (ht : (pc : Int) + off = (tgt : Int)) (kt : ¬ x = 0 → xm_S g d y (tgt, ls, st) h Q) (kf : x = 0 → xm_S g d y (pc + 3, ls, st) h Q) : xm_S g d y (pc, ls, .int x :: st) h Q := by
  by_cases hc : ¬ x = 0
  · exact xm_pure (fun _ _ _ _ _ _ _ _ _ _ _ _ _ _ _ C hX hl k => lv_if_ne C.1 C.2.1 hd ht (fun _ => k) (fun n => absurd hc (by simpa using n))) (kt hc)
  · exact xm_pure (fun _ _ _ _ _ _ _ _ _ _ _ _ _ _ _ C hX hl k => lv_if_ne C.1 C.2.1 hd ht (fun n => absurd n hc) (fun _ => k)) (kf (by simpa using hc))
theorem xr_icmp_lt {g : xm_G} {d pc : Nat} {y : xm_M} {ls : List (Option Value)} {st : List Value} {h : xm_H} {Q : Option Value → xm_H → Prop} {x z : Int32} {off : Int} {tgt : Nat} (hd : decode (xt_code y) pc = .ok (.if_icmp .lt off, 3)) (ht : (pc : Int) + off = (tgt : Int)) (kt : x < z → xm_S g d y (tgt, ls, st) h Q) (kf : ¬ x < z → xm_S g d y (pc + 3, ls, st) h Q) : xm_S g d y (pc, ls, .int z :: .int x :: st) h Q := by
  by_cases hc : x < z
  · exact xm_pure (fun _ _ _ _ _ _ _ _ _ _ _ _ _ _ _ C hX hl k => lv_icmp_lt C.1 C.2.1 hd ht (fun _ => k) (fun n => absurd hc (by simpa using n))) (kt hc)
  · exact xm_pure (fun _ _ _ _ _ _ _ _ _ _ _ _ _ _ _ C hX hl k => lv_icmp_lt C.1 C.2.1 hd ht (fun n => absurd n hc) (fun _ => k)) (kf (by simpa using hc))
theorem xr_if_lt {g : xm_G} {d pc : Nat} {y : xm_M} {ls : List (Option Value)} {st : List Value} {h : xm_H} {Q : Option Value → xm_H → Prop} {x : Int32} {off : Int} {tgt : Nat} (hd : decode (xt_code y) pc = .ok (.ifCond .lt off, 3)) (ht : (pc : Int) + off = (tgt : Int)) (kt : x < 0 → xm_S g d y (tgt, ls, st) h Q) (kf : ¬ x < 0 → xm_S g d y (pc + 3, ls, st) h Q) : xm_S g d y (pc, ls, .int x :: st) h Q := by
  by_cases hc : x < 0
  · exact xm_pure (fun _ _ _ _ _ _ _ _ _ _ _ _ _ _ _ C hX hl k => lv_if_lt C.1 C.2.1 hd ht (fun _ => k) (fun n => absurd hc (by simpa using n))) (kt hc)
  · exact xm_pure (fun _ _ _ _ _ _ _ _ _ _ _ _ _ _ _ C hX hl k => lv_if_lt C.1 C.2.1 hd ht (fun n => absurd n hc) (fun _ => k)) (kf (by simpa using hc))
theorem xr_icmp_ge {g : xm_G} {d pc : Nat} {y : xm_M} {ls : List (Option Value)} {st : List Value} {h : xm_H} {Q : Option Value → xm_H → Prop} {x z : Int32} {off : Int} {tgt : Nat} (hd : decode (xt_code y) pc = .ok (.if_icmp .ge off, 3)) (ht : (pc : Int) + off = (tgt : Int)) (kt : z ≤ x → xm_S g d y (tgt, ls, st) h Q) (kf : ¬ z ≤ x → xm_S g d y (pc + 3, ls, st) h Q) : xm_S g d y (pc, ls, .int z :: .int x :: st) h Q := by
  by_cases hc : z ≤ x
  · exact xm_pure (fun _ _ _ _ _ _ _ _ _ _ _ _ _ _ _ C hX hl k => lv_icmp_ge C.1 C.2.1 hd ht (fun _ => k) (fun n => absurd hc (by simpa using n))) (kt hc)
  · exact xm_pure (fun _ _ _ _ _ _ _ _ _ _ _ _ _ _ _ C hX hl k => lv_icmp_ge C.1 C.2.1 hd ht (fun n => absurd n hc) (fun _ => k)) (kf (by simpa using hc))
theorem xr_if_ge {g : xm_G} {d pc : Nat} {y : xm_M} {ls : List (Option Value)} {st : List Value} {h : xm_H} {Q : Option Value → xm_H → Prop} {x : Int32} {off : Int} {tgt : Nat} (hd : decode (xt_code y) pc = .ok (.ifCond .ge off, 3)) (ht : (pc : Int) + off = (tgt : Int)) (kt : 0 ≤ x → xm_S g d y (tgt, ls, st) h Q) (kf : ¬ 0 ≤ x → xm_S g d y (pc + 3, ls, st) h Q) : xm_S g d y (pc, ls, .int x :: st) h Q := by
  by_cases hc : 0 ≤ x
  · exact xm_pure (fun _ _ _ _ _ _ _ _ _ _ _ _ _ _ _ C hX hl k => lv_if_ge C.1 C.2.1 hd ht (fun _ => k) (fun n => absurd hc (by simpa using n))) (kt hc)
  · exact xm_pure (fun _ _ _ _ _ _ _ _ _ _ _ _ _ _ _ C hX hl k => lv_if_ge C.1 C.2.1 hd ht (fun n => absurd n hc) (fun _ => k)) (kf (by simpa using hc))
theorem xr_icmp_gt {g : xm_G} {d pc : Nat} {y : xm_M} {ls : List (Option Value)} {st : List Value} {h : xm_H} {Q : Option Value → xm_H → Prop} {x z : Int32} {off : Int} {tgt : Nat} (hd : decode (xt_code y) pc = .ok (.if_icmp .gt off, 3)) (ht : (pc : Int) + off = (tgt : Int)) (kt : z < x → xm_S g d y (tgt, ls, st) h Q) (kf : ¬ z < x → xm_S g d y (pc + 3, ls, st) h Q) : xm_S g d y (pc, ls, .int z :: .int x :: st) h Q := by
  by_cases hc : z < x
  · exact xm_pure (fun _ _ _ _ _ _ _ _ _ _ _ _ _ _ _ C hX hl k => lv_icmp_gt C.1 C.2.1 hd ht (fun _ => k) (fun n => absurd hc (by simpa using n))) (kt hc)
  · exact xm_pure (fun _ _ _ _ _ _ _ _ _ _ _ _ _ _ _ C hX hl k => lv_icmp_gt C.1 C.2.1 hd ht (fun n => absurd n hc) (fun _ => k)) (kf (by simpa using hc))
theorem xr_if_gt {g : xm_G} {d pc : Nat} {y : xm_M} {ls : List (Option Value)} {st : List Value} {h : xm_H} {Q : Option Value → xm_H → Prop} {x : Int32} {off : Int} {tgt : Nat} (hd : decode (xt_code y) pc = .ok (.ifCond .gt off, 3)) (ht : (pc : Int) + off = (tgt : Int)) (kt : 0 < x → xm_S g d y (tgt, ls, st) h Q) (kf : ¬ 0 < x → xm_S g d y (pc + 3, ls, st) h Q) : xm_S g d y (pc, ls, .int x :: st) h Q := by
  by_cases hc : 0 < x
  · exact xm_pure (fun _ _ _ _ _ _ _ _ _ _ _ _ _ _ _ C hX hl k => lv_if_gt C.1 C.2.1 hd ht (fun _ => k) (fun n => absurd hc (by simpa using n))) (kt hc)
  · exact xm_pure (fun _ _ _ _ _ _ _ _ _ _ _ _ _ _ _ C hX hl k => lv_if_gt C.1 C.2.1 hd ht (fun n => absurd n hc) (fun _ => k)) (kf (by simpa using hc))
theorem xr_icmp_le {g : xm_G} {d pc : Nat} {y : xm_M} {ls : List (Option Value)} {st : List Value} {h : xm_H} {Q : Option Value → xm_H → Prop} {x z : Int32} {off : Int} {tgt : Nat} (hd : decode (xt_code y) pc = .ok (.if_icmp .le off, 3)) (ht : (pc : Int) + off = (tgt : Int)) (kt : x ≤ z → xm_S g d y (tgt, ls, st) h Q) (kf : ¬ x ≤ z → xm_S g d y (pc + 3, ls, st) h Q) : xm_S g d y (pc, ls, .int z :: .int x :: st) h Q := by
  by_cases hc : x ≤ z
  · exact xm_pure (fun _ _ _ _ _ _ _ _ _ _ _ _ _ _ _ C hX hl k => lv_icmp_le C.1 C.2.1 hd ht (fun _ => k) (fun n => absurd hc (by simpa using n))) (kt hc)
  · exact xm_pure (fun _ _ _ _ _ _ _ _ _ _ _ _ _ _ _ C hX hl k => lv_icmp_le C.1 C.2.1 hd ht (fun n => absurd n hc) (fun _ => k)) (kf (by simpa using hc))
theorem xr_if_le {g : xm_G} {d pc : Nat} {y : xm_M} {ls : List (Option Value)} {st : List Value} {h : xm_H} {Q : Option Value → xm_H → Prop} {x : Int32} {off : Int} {tgt : Nat} (hd : decode (xt_code y) pc = .ok (.ifCond .le off, 3)) (ht : (pc : Int) + off = (tgt : Int)) (kt : x ≤ 0 → xm_S g d y (tgt, ls, st) h Q) (kf : ¬ x ≤ 0 → xm_S g d y (pc + 3, ls, st) h Q) : xm_S g d y (pc, ls, .int x :: st) h Q := by
  by_cases hc : x ≤ 0
  · exact xm_pure (fun _ _ _ _ _ _ _ _ _ _ _ _ _ _ _ C hX hl k => lv_if_le C.1 C.2.1 hd ht (fun _ => k) (fun n => absurd hc (by simpa using n))) (kt hc)
  · exact xm_pure (fun _ _ _ _ _ _ _ _ _ _ _ _ _ _ _ C hX hl k => lv_if_le C.1 C.2.1 hd ht (fun n => absurd n hc) (fun _ => k)) (kf (by simpa using hc))
theorem xr_ifnullQ {g : xm_G} {d pc : Nat} {y : xm_M} {ls : List (Option Value)} {st : List Value} {h : xm_H} {Q : Option Value → xm_H → Prop} {r : Option Nat} {off : Int} {tgt : Nat} (hd : decode (xt_code y) pc = .ok (.ifnull off, 3)) (ht : (pc : Int) + off = (tgt : Int)) (kt : r = none → xm_S g d y (tgt, ls, st) h Q) (kf : ∀ a, r = some a → xm_S g d y (pc + 3, ls, st) h Q) : xm_S g d y (pc, ls, va_rf r :: st) h Q := by
  cases r with
  | none => exact xr_ifnullN hd ht (kt rfl)
  | some a => exact xr_ifnull hd (kf a rfl)
theorem xr_ifnonnullQ {g : xm_G} {d pc : Nat} {y : xm_M} {ls : List (Option Value)} {st : List Value} {h : xm_H} {Q : Option Value → xm_H → Prop} {r : Option Nat} {off : Int} {tgt : Nat} (hd : decode (xt_code y) pc = .ok (.ifnonnull off, 3)) (ht : (pc : Int) + off = (tgt : Int)) (kt : ∀ a, r = some a → xm_S g d y (tgt, ls, st) h Q) (kf : r = none → xm_S g d y (pc + 3, ls, st) h Q) : xm_S g d y (pc, ls, va_rf r :: st) h Q := by
  cases r with
  | none => exact xr_ifnonnullN hd (kf rfl)
  | some a => exact xr_ifnonnull hd ht (kt a rfl)
theorem xr_acmp_eq {g : xm_G} {d pc : Nat} {y : xm_M} {ls : List (Option Value)} {st : List Value} {h : xm_H} {Q : Option Value → xm_H → Prop} {rx ry : Option Nat} {off : Int} {tgt : Nat} (hd : decode (xt_code y) pc = .ok (.if_acmp .eq off, 3)) (ht : (pc : Int) + off = (tgt : Int)) (kt : rx = ry → xm_S g d y (tgt, ls, st) h Q) (kf : ¬ rx = ry → xm_S g d y (pc + 3, ls, st) h Q) : xm_S g d y (pc, ls, va_rf ry :: va_rf rx :: st) h Q := by
  by_cases hc : rx = ry
  · exact xm_pure (fun _ _ _ _ _ _ _ _ _ _ _ _ _ _ _ C hX hl k => lv_acmp_eq C.1 C.2.1 hd ht (fun _ => k) (fun n => absurd hc (by simpa using n))) (kt hc)
  · exact xm_pure (fun _ _ _ _ _ _ _ _ _ _ _ _ _ _ _ C hX hl k => lv_acmp_eq C.1 C.2.1 hd ht (fun n => absurd n hc) (fun _ => k)) (kf (by simpa using hc))
theorem xr_acmp_ne {g : xm_G} {d pc : Nat} {y : xm_M} {ls : List (Option Value)} {st : List Value} {h : xm_H} {Q : Option Value → xm_H → Prop} {rx ry : Option Nat} {off : Int} {tgt : Nat} (hd : decode (xt_code y) pc = .ok (.if_acmp .ne off, 3)) (ht : (pc : Int) + off = (tgt : Int)) (kt : ¬ rx = ry → xm_S g d y (tgt, ls, st) h Q) (kf : rx = ry → xm_S g d y (pc + 3, ls, st) h Q) : xm_S g d y (pc, ls, va_rf ry :: va_rf rx :: st) h Q := by
  by_cases hc : ¬ rx = ry
  · exact xm_pure (fun _ _ _ _ _ _ _ _ _ _ _ _ _ _ _ C hX hl k => lv_acmp_ne C.1 C.2.1 hd ht (fun _ => k) (fun n => absurd hc (by simpa using n))) (kt hc)
  · exact xm_pure (fun _ _ _ _ _ _ _ _ _ _ _ _ _ _ _ C hX hl k => lv_acmp_ne C.1 C.2.1 hd ht (fun n => absurd n hc) (fun _ => k)) (kf (by simpa using hc))
theorem xr_istore {g : xm_G} {d pc : Nat} {y : xm_M} {ls : List (Option Value)} {st : List Value} {h : xm_H} {Q : Option Value → xm_H → Prop} {i : Nat} {x : Int32} (hd : decode (xt_code y) pc = .ok (.istore i, 2)) (hi : (i : Nat) < ls.length) (K : xm_S g d y (pc + 2, ls.set i (some (.int x)), st) h Q) : xm_S g d y (pc, ls, .int x :: st) h Q := by
  obtain ⟨r, h', hq, h1, h2, h3, k⟩ := K
  refine ⟨r, h', hq, h1, h2, by rw [← h3]; simp, fun p e R s m args below meth c H locs cells slots Z la C hR hX hS hl kr => ?_⟩
  exact lv_istore C.1 C.2.1 hd hl.has hi rfl (fun la' hl' => k p e R s m args below meth c H locs cells slots Z la' C hR hX hS (hl.of rfl hi hl') kr)
theorem xr_istore_n {g : xm_G} {d pc : Nat} {y : xm_M} {ls : List (Option Value)} {st : List Value} {h : xm_H} {Q : Option Value → xm_H → Prop} {i : Fin 4} {x : Int32} (hd : decode (xt_code y) pc = .ok (.istore_n i, 1)) (hi : ((i : Nat) : Nat) < ls.length) (K : xm_S g d y (pc + 1, ls.set (i : Nat) (some (.int x)), st) h Q) : xm_S g d y (pc, ls, .int x :: st) h Q := by
  obtain ⟨r, h', hq, h1, h2, h3, k⟩ := K
  refine ⟨r, h', hq, h1, h2, by rw [← h3]; simp, fun p e R s m args below meth c H locs cells slots Z la C hR hX hS hl kr => ?_⟩
  exact lv_istore_n C.1 C.2.1 hd rfl hl.has hi rfl (fun la' hl' => k p e R s m args below meth c H locs cells slots Z la' C hR hX hS (hl.of rfl hi hl') kr)
theorem xr_astore {g : xm_G} {d pc : Nat} {y : xm_M} {ls : List (Option Value)} {st : List Value} {h : xm_H} {Q : Option Value → xm_H → Prop} {i : Nat} {x : Nat} (hd : decode (xt_code y) pc = .ok (.astore i, 2)) (hi : (i : Nat) < ls.length) (K : xm_S g d y (pc + 2, ls.set i (some (.ref x)), st) h Q) : xm_S g d y (pc, ls, .ref x :: st) h Q := by
  obtain ⟨r, h', hq, h1, h2, h3, k⟩ := K
  refine ⟨r, h', hq, h1, h2, by rw [← h3]; simp, fun p e R s m args below meth c H locs cells slots Z la C hR hX hS hl kr => ?_⟩
  exact lv_astore C.1 C.2.1 hd hl.has hi rfl (fun la' hl' => k p e R s m args below meth c H locs cells slots Z la' C hR hX hS (hl.of rfl hi hl') kr)
theorem xr_astore_n {g : xm_G} {d pc : Nat} {y : xm_M} {ls : List (Option Value)} {st : List Value} {h : xm_H} {Q : Option Value → xm_H → Prop} {i : Fin 4} {x : Nat} (hd : decode (xt_code y) pc = .ok (.astore_n i, 1)) (hi : ((i : Nat) : Nat) < ls.length) (K : xm_S g d y (pc + 1, ls.set (i : Nat) (some (.ref x)), st) h Q) : xm_S g d y (pc, ls, .ref x :: st) h Q := by
  obtain ⟨r, h', hq, h1, h2, h3, k⟩ := K
  refine ⟨r, h', hq, h1, h2, by rw [← h3]; simp, fun p e R s m args below meth c H locs cells slots Z la C hR hX hS hl kr => ?_⟩
  exact lv_astore_n C.1 C.2.1 hd rfl hl.has hi rfl (fun la' hl' => k p e R s m args below meth c H locs cells slots Z la' C hR hX hS (hl.of rfl hi hl') kr)
theorem xr_astoreN {g : xm_G} {d pc : Nat} {y : xm_M} {ls : List (Option Value)} {st : List Value} {h : xm_H} {Q : Option Value → xm_H → Prop} {i : Nat} (hd : decode (xt_code y) pc = .ok (.astore i, 2)) (hi : (i : Nat) < ls.length) (K : xm_S g d y (pc + 2, ls.set i (some .null), st) h Q) : xm_S g d y (pc, ls, .null :: st) h Q := by
  obtain ⟨r, h', hq, h1, h2, h3, k⟩ := K
  refine ⟨r, h', hq, h1, h2, by rw [← h3]; simp, fun p e R s m args below meth c H locs cells slots Z la C hR hX hS hl kr => ?_⟩
  exact lv_astoreN C.1 C.2.1 hd hl.has hi rfl (fun la' hl' => k p e R s m args below meth c H locs cells slots Z la' C hR hX hS (hl.of rfl hi hl') kr)
theorem xr_astore_nN {g : xm_G} {d pc : Nat} {y : xm_M} {ls : List (Option Value)} {st : List Value} {h : xm_H} {Q : Option Value → xm_H → Prop} {i : Fin 4} (hd : decode (xt_code y) pc = .ok (.astore_n i, 1)) (hi : ((i : Nat) : Nat) < ls.length) (K : xm_S g d y (pc + 1, ls.set (i : Nat) (some .null), st) h Q) : xm_S g d y (pc, ls, .null :: st) h Q := by
  obtain ⟨r, h', hq, h1, h2, h3, k⟩ := K
  refine ⟨r, h', hq, h1, h2, by rw [← h3]; simp, fun p e R s m args below meth c H locs cells slots Z la C hR hX hS hl kr => ?_⟩
  exact lv_astore_nN C.1 C.2.1 hd rfl hl.has hi rfl (fun la' hl' => k p e R s m args below meth c H locs cells slots Z la' C hR hX hS (hl.of rfl hi hl') kr)
theorem xr_iinc {g : xm_G} {d pc : Nat} {y : xm_M} {ls : List (Option Value)} {st : List Value} {h : xm_H} {Q : Option Value → xm_H → Prop} {i : Nat} {n : Int} {x v : Int32} (hd : decode (xt_code y) pc = .ok (.iinc i n, 3)) (hx : ls[i]? = some (some (.int x))) (hv : x + Int32.ofInt n = v) (K : xm_S g d y (pc + 3, ls.set i (some (.int v)), st) h Q) : xm_S g d y (pc, ls, st) h Q := by
  obtain ⟨r, h', hq, h1, h2, h3, k⟩ := K
  refine ⟨r, h', hq, h1, h2, by rw [← h3]; simp, fun p e R s m args below meth c H locs cells slots Z la C hR hX hS hl kr => ?_⟩
  have hi : i < ls.length := (List.getElem?_eq_some_iff.mp hx).1
  obtain ⟨j, hj⟩ := List.getElem?_of_mem (xm_al_mem (q := (i, Value.int x)).mpr hx)
  exact lv_iinc C.1 C.2.1 hd hl.has hj hv hi rfl (fun la' hl' => k p e R s m args below meth c H locs cells slots Z la' C hR hX hS (hl.of rfl hi hl') kr)
theorem xr_aloadQ {g : xm_G} {d pc : Nat} {y : xm_M} {ls : List (Option Value)} {st : List Value} {h : xm_H} {Q : Option Value → xm_H → Prop} {i : Nat} {r : Option Nat} (hd : decode (xt_code y) pc = .ok (.aload i, 2)) (hv : ls[i]? = some (some (va_rf r))) (K : xm_S g d y (pc + 2, ls, va_rf r :: st) h Q) : xm_S g d y (pc, ls, st) h Q := by
  cases r with
  | none => exact xr_aloadN hd hv K
  | some a => exact xr_aload hd hv K
theorem xr_aload_nQ {g : xm_G} {d pc : Nat} {y : xm_M} {ls : List (Option Value)} {st : List Value} {h : xm_H} {Q : Option Value → xm_H → Prop} {i : Fin 4} {r : Option Nat} (hd : decode (xt_code y) pc = .ok (.aload_n i, 1)) (hv : ls[(i : Nat)]? = some (some (va_rf r))) (K : xm_S g d y (pc + 1, ls, va_rf r :: st) h Q) : xm_S g d y (pc, ls, st) h Q := by
  cases r with
  | none => exact xr_aload_nN hd hv K
  | some a => exact xr_aload_n hd hv K
theorem xr_astoreQ {g : xm_G} {d pc : Nat} {y : xm_M} {ls : List (Option Value)} {st : List Value} {h : xm_H} {Q : Option Value → xm_H → Prop} {i : Nat} {r : Option Nat} (hd : decode (xt_code y) pc = .ok (.astore i, 2)) (hi : i < ls.length) (K : xm_S g d y (pc + 2, ls.set i (some (va_rf r)), st) h Q) : xm_S g d y (pc, ls, va_rf r :: st) h Q := by
  cases r with
  | none => exact xr_astoreN hd hi K
  | some a => exact xr_astore hd hi K
theorem xr_astore_nQ {g : xm_G} {d pc : Nat} {y : xm_M} {ls : List (Option Value)} {st : List Value} {h : xm_H} {Q : Option Value → xm_H → Prop} {i : Fin 4} {r : Option Nat} (hd : decode (xt_code y) pc = .ok (.astore_n i, 1)) (hi : (i : Nat) < ls.length) (K : xm_S g d y (pc + 1, ls.set (i : Nat) (some (va_rf r)), st) h Q) : xm_S g d y (pc, ls, va_rf r :: st) h Q := by
  cases r with
  | none => exact xr_astore_nN hd hi K
  | some a => exact xr_astore_n hd hi K
theorem xm_end {g : xm_G} {d pc : Nat} {y : xm_M} {ls : List (Option Value)} {st : List Value} {h : xm_H} {Q : Option Value → xm_H → Prop} {I : Jvm.ClassFile.Instr} {r : Option Value} (hd : decode (xt_code y) pc = .ok (I, 1)) (hn : ls.length = xt_maxL y) (hr : xm_ret y I st r) (hq : Q r h) : xm_S g d y (pc, ls, st) h Q :=
  ⟨r, h, hq, Nat.le_refl _, Nat.le_refl _, hn, fun p e R s m args below meth c H locs cells slots Z la C hR hX hS hl kr => by
    have k := kr pc la H locs I st hd hr hX hS
    simpa using k⟩
theorem xr_ireturn {g : xm_G} {d pc : Nat} {y : xm_M} {ls : List (Option Value)} {h : xm_H} {Q : Option Value → xm_H → Prop} {v : Int32} {ty : FieldType} (hd : decode (xt_code y) pc = .ok (.ireturn, 1)) (hn : ls.length = xt_maxL y) (ht : xt_ret y = some ty) (hv : narrow ty (.int v) = .int v) (hq : Q (some (.int v)) h) : xm_S g d y (pc, ls, [.int v]) h Q :=
  xm_end hd hn (Or.inl ⟨rfl, v, ty, rfl, rfl, ht, hv⟩) hq
theorem xr_return {g : xm_G} {d pc : Nat} {y : xm_M} {ls : List (Option Value)} {h : xm_H} {Q : Option Value → xm_H → Prop} (hd : decode (xt_code y) pc = .ok (.return_, 1)) (hn : ls.length = xt_maxL y) (ht : xt_ret y = none) (hq : Q none h) : xm_S g d y (pc, ls, []) h Q :=
  xm_end hd hn (Or.inr (Or.inl ⟨rfl, rfl, rfl, ht⟩)) hq
theorem xr_areturn {g : xm_G} {d pc : Nat} {y : xm_M} {ls : List (Option Value)} {h : xm_H} {Q : Option Value → xm_H → Prop} {v : Option Nat} {C : String} (hd : decode (xt_code y) pc = .ok (.areturn, 1)) (hn : ls.length = xt_maxL y) (ht : xt_ret y = some (.object C)) (hq : Q (some (va_rf v)) h) : xm_S g d y (pc, ls, [va_rf v]) h Q :=
  xm_end hd hn (Or.inr (Or.inr ⟨rfl, va_rf v, .object C, rfl, rfl, ht, Or.inl ⟨C, rfl⟩, by cases v with
    | none => exact Or.inl rfl
    | some a => exact Or.inr ⟨a, rfl⟩⟩)) hq
end
section
/-! rows of the heap: fields, arrays, new cells -/
section XHeap
variable {g : xm_G} {d pc : Nat} {y : xm_M} {ls : List (Option Value)} {st : List Value} {h : xm_H} {Q : Option Value → xm_H → Prop}
theorem xr_getf {i ci k a : Nat} {fs : List Value} {v : Value} (hd : decode (xt_code y) pc = .ok (.getfield i, 3)) (hf : xm_okF (xt_own y) i ci k) (ha : h.1 a = some (.inl (ci, fs))) (hv : fs[k]? = some v) (K : xm_S g d y (pc + 3, ls, v :: st) h Q) : xm_S g d y (pc, ls, .ref a :: st) h Q := by
  obtain ⟨Cn, T, N, hc, hk, hlink⟩ := hf
  exact xm_pure (fun _ _ _ _ _ _ _ _ _ _ _ _ _ _ _ C hX hl kk => va_get (ref := (T k).1) C.1 C.2.1 C.2.2.2.2.2.1 (xt_cl_ok hc).1 C.2.2.2.2.1 hX.2.2.2.2.2.1 (hX.obj ha).2.1 0 rfl hc k hk (C.2.2.2.2.2.1 _ hlink) (fun _ h9 => h9) hv hd kk) K
theorem xr_putf {i ci k a : Nat} {fs : List Value} {v : Value} (hd : decode (xt_code y) pc = .ok (.putfield i, 3)) (hf : xm_okF (xt_own y) i ci k) (ha : h.1 a = some (.inl (ci, fs))) (hfin : xt_fin ci k = false) (hn : narrow (xt_ty ci k) v = v) (hfit : fits (xt_ty ci k) v = true) (K : xm_S g d y (pc + 3, ls, st) (xm_up h.1 a (.inl (ci, fs.set k v)), h.2) Q) : xm_S g d y (pc, ls, v :: .ref a :: st) h Q := by
  obtain ⟨r, h', hq, h1, h2, h3, kk⟩ := K
  refine ⟨r, h', hq, h1, h2, h3, fun p e R s m args below meth c H locs cells slots Z la C hR hX hS hl kr => ?_⟩
  obtain ⟨Cn, T, N, hc, hk, hlink⟩ := hf
  obtain ⟨hin, hty, hnm, -⟩ := xt_cl_ok hc
  obtain ⟨hN, hP, r0, hr0, hlen⟩ := hX.obj ha
  have hr1 : r0 = (Cn, T, N) := Option.some.inj (hr0.symm.trans hc)
  subst hr1
  have hfin' : (T k).2.2.2 = false := by
    have e := hfin
    unfold xt_fin at e
    rw [hc] at e
    exact e
  have hts := C.2.2.2.2.2.1
  have hK := hX.2.2.2.2.2.1
  have hap := va_apart (own := xt_nm (xt_own y)) hts hin (xt_ty ci) hty hnm hK hc
  obtain ⟨r', h1', cell, q1, q2, q3, q4⟩ := hP 0 _ rfl
  have hr : r' = (Cn, T, N) := Option.some.inj (h1'.symm.trans hc)
  subst hr
  obtain ⟨hSl, hfc, kC, hkC, hkind⟩ := hK.1 ci _ hc
  obtain ⟨cf, kf, fi, f, hi, hsl⟩ := hSl k hk
  have hlay := hts _ (hin _ (u_in_lay hk))
  unfold u_lay at hlay
  rw [if_neg (by rw [hfin']; decide)] at hlay
  have hst := (u_facts hfc hkC (u_lays hts hin hk) hi).1
  have h6 := u_store hfc hkC hkind hlay hi (hty k hk) hn hfit
  refine W.putK C.1 C.2.1 (f := f) ⟨C.2.2.2.2.1, hts _ hlink, ⟨_, _, _, hi⟩, hst⟩ (by rw [q2]; exact h6) q1 q3 (by rw [hsl]; exact k2_hasslot (q4 k hk)) rfl rfl hd fun H' e1 e2 e3 => ?_
  rw [hsl] at e1 ⊢
  have hat : xm_at g a (.inl (ci, fs.set k v)) H' := ⟨_, hc, by rw [List.length_set]; exact hlen, t_OB.to (V := updV (vp_V fs) k v) ⟨_, e1, q2, q3, t_set q4 hap hk v⟩ (fun j _ => vp_updV_set (by rw [hlen]; exact hk) v j)⟩
  exact kk p e R s m args below meth c H' _ cells slots Z la C hR (hX.set hN hat e2 e3) (hS.put e2 e3 hN) hl kr
theorem xr_putF {i ci k a : Nat} {fs : List Value} {v : Value} (hd : decode (xt_code y) pc = .ok (.putfield i, 3)) (hf : xm_okF (xt_own y) i ci k) (ha : h.1 a = some (.inl (ci, fs))) (hfin : xt_fin ci k = true) (hdec : xt_dec ci k = xt_nm (xt_own y)) (hini : (xt_y y).name = "<init>") (hn : narrow (xt_ty ci k) v = v) (hfit : fits (xt_ty ci k) v = true) (K : xm_S g d y (pc + 3, ls, st) (xm_up h.1 a (.inl (ci, fs.set k v)), h.2) Q) : xm_S g d y (pc, ls, v :: .ref a :: st) h Q := by
  obtain ⟨r, h', hq, h1, h2, h3, kk⟩ := K
  refine ⟨r, h', hq, h1, h2, h3, fun p e R s m args below meth c H locs cells slots Z la C hR hX hS hl kr => ?_⟩
  obtain ⟨Cn, T, N, hc, hk, hlink⟩ := hf
  obtain ⟨hin, hty, hnm, -⟩ := xt_cl_ok hc
  obtain ⟨hN, hP, r0, hr0, hlen⟩ := hX.obj ha
  have hr1 : r0 = (Cn, T, N) := Option.some.inj (hr0.symm.trans hc)
  subst hr1
  have hfin' : (T k).2.2.2 = true := by
    have e := hfin
    unfold xt_fin at e
    rw [hc] at e
    exact e
  have hdecl : (T k).1 = xt_nm (xt_own y) := by
    have e := hdec
    unfold xt_dec at e
    rw [hc] at e
    exact e
  have hts := C.2.2.2.2.2.1
  have hown := C.2.2.2.2.1
  have hK := hX.2.2.2.2.2.1
  have hap := va_apart (own := xt_nm (xt_own y)) hts hin (xt_ty ci) hty hnm hK hc
  obtain ⟨r', h1', cell, q1, q2, q3, q4⟩ := hP 0 _ rfl
  have hr : r' = (Cn, T, N) := Option.some.inj (h1'.symm.trans hc)
  subst hr
  obtain ⟨hSl, hfc, kC, hkC, hkind⟩ := hK.1 ci _ hc
  obtain ⟨cf, kf, fi, f, hi, hsl⟩ := hSl k hk
  have hlay := hts _ (hin _ (u_in_lay hk))
  unfold u_lay at hlay
  rw [if_pos hfin'] at hlay
  have hst := (u_facts hfc hkC (u_lays hts hin hk) hi).1
  have hcf : m.cls = cf := by
    obtain ⟨_, _, c', _, _, _, -, -, hf', -, -, -, hown2, -⟩ := Cond.laysFinal_spec hlay
    have e1 : c' = cf := by have := hi.symm.trans hf'; simp at this; exact this.1.symm
    rw [hdecl] at hown2
    rw [← e1]; exact Option.some.inj (hown.symm.trans hown2)
  have h6 := u_fits hfc hkC hkind (Or.inr hlay) hi (hty k hk) hn hfit
  refine W.putFinK C.1 C.2.1 hown (hts _ hlink) hi hst hcf (C.2.2.2.2.2.2.2 hini) (by rw [q2]; exact h6) q1 q3 (by rw [hsl]; exact k2_hasslot (q4 k hk)) rfl rfl hd fun H' e1 e2 e3 => ?_
  rw [hsl] at e1 ⊢
  have hat : xm_at g a (.inl (ci, fs.set k v)) H' := ⟨_, hc, by rw [List.length_set]; exact hlen, t_OB.to (V := updV (vp_V fs) k v) ⟨_, e1, q2, q3, t_set q4 hap hk v⟩ (fun j _ => vp_updV_set (by rw [hlen]; exact hk) v j)⟩
  exact kk p e R s m args below meth c H' _ cells slots Z la C hR (hX.set hN hat e2 e3) (hS.put e2 e3 hN) hl kr
theorem xm_room1 {a b c d e f : Nat} (h : b + 1 ≤ c) (hr : a + (c - b) ≤ d) : a + 1 ≤ d ∧ a + 1 + (c - (b + 1)) ≤ d ∧ a + 1 + (c - (b + 1)) = a + (c - b) := by omega
theorem xm_roomn {a b c d n : Nat} (h : b + n ≤ c) (hr : a + (c - b) ≤ d) : a + n ≤ d ∧ a + n + (c - (b + n)) ≤ d ∧ a + n + (c - (b + n)) = a + (c - b) := by omega
theorem va_S.made {A : Nat → Prop} {H0 H H1 : Heap} {locs : List Loc} (h : va_S A H0 H locs) (z : H1.size = H.size + 1) (oq : ∀ q : Nat, q < H.size → H1[q]? = H[q]?) : va_S A H0 H1 locs :=
  ⟨Nat.le_trans h.1 (by omega), fun x h1 h2 => (oq x (Nat.lt_of_lt_of_le h1 h.1)).trans (h.2.1 x h1 h2), h.2.2⟩
theorem xr_new {i ci : Nat} {fs : List Value} {N : Nat} (hd : decode (xt_code y) pc = .ok (.new i, 3)) (hn : xm_okN (xt_own y) i ci) (hfs : xt_dflt ci = fs) (hN : fs.length = N) (K : xm_S g d y (pc + 3, ls, .ref h.2.1 :: st) (xm_up h.1 h.2.1 (.inl (ci, fs)), h.2.1 + 1, h.2.2 + N) Q) : xm_S g d y (pc, ls, st) h Q := by
  obtain ⟨r, h', hq, h1, h2, h3, kk⟩ := K
  refine ⟨r, h', hq, Nat.le_trans (Nat.le_succ _) h1, Nat.le_trans (Nat.le_add_right _ _) h2, h3, fun p e R s m args below meth c H locs cells slots Z la C hR hX hS hl kr => ?_⟩
  obtain ⟨Cn, T, N', hc, hlink⟩ := hn
  obtain ⟨hin, hty, hnm, hinst, hini⟩ := xt_cl_ok hc
  have hts := C.2.2.2.2.2.1
  have hKn := hX.2.2.2.2.2.1.1 ci _ hc
  have hd0 : xt_dflt ci = (List.range N').map (fun k => defaultValue (xt_ty ci k)) := by
    unfold xt_dflt
    rw [hc]
  have hN' : N' = N := by rw [← hN, ← hfs, hd0]; simp
  subst hN'
  obtain ⟨r1, r2, r3⟩ := xm_roomn (n := 1) h1 hR.2.2.1
  obtain ⟨r4, r5, r6⟩ := xm_roomn (n := N') h2 hR.2.2.2
  refine W.newcK C.1 C.2.1 C.2.2.2.2.1 (hts _ hlink) (hts _ hinst) (hts _ hini) rfl hd r1 r4 hKn.2.1 hX.1 fun H1 kC hkC e1 z1 o1 => ?_
  have hz : H1.size = H.size + 1 := by rw [z1, hX.1]
  have hat : xm_at g h.2.1 (.inl (ci, fs)) H1 := by
    refine ⟨_, hc, hN, (u_born (xt_ty ci) hts hin hKn hkC e1 hty).to (fun j hj => ?_)⟩
    rw [← hfs, hd0]
    simp [vp_V, hj]
  exact kk p e R s m args below meth c H1 locs (cells + 1) (slots + N') Z la C ⟨hR.1, hR.2.1, r2, r5⟩ (hX.push hat hz (fun q hq => o1 q (by rw [← hX.1]; exact hq))) (hS.made hz (fun q hq => o1 q (by rw [← hX.1]; exact hq))) hl (fun pc' la' H' locs' I st' a1 a2 a3 a4 => W.cs r3 r6 (kr pc' la' H' locs' I st' a1 a2 a3 a4))
theorem xr_anew {i t : Nat} {n : Int32} {N : Nat} (hd : decode (xt_code y) pc = .ok (.anewarray i, 3)) (hn : xm_okA (xt_own y) i t) (h0 : ¬ n < 0) (hN : n.toNatClampNeg = N) (hb : N * 4 ≤ 536870912) (K : xm_S g d y (pc + 3, ls, .ref h.2.1 :: st) (xm_up h.1 h.2.1 (.inr (t, N, fun _ => .null)), h.2.1 + 1, h.2.2 + N) Q) : xm_S g d y (pc, ls, .int n :: st) h Q := by
  obtain ⟨r, h', hq, h1, h2, h3, kk⟩ := K
  refine ⟨r, h', hq, Nat.le_trans (Nat.le_succ _) h1, Nat.le_trans (Nat.le_add_right _ _) h2, h3, fun p e R s m args below meth c H locs cells slots Z la C hR hX hS hl kr => ?_⟩
  obtain ⟨Cn, hc, hlink⟩ := hn
  have hts := C.2.2.2.2.2.1
  obtain ⟨k1, k2, k3⟩ := hX.2.2.2.2.2.2 t _ hc
  subst hN
  obtain ⟨r1, r2, r3⟩ := xm_roomn (n := 1) h1 hR.2.2.1
  obtain ⟨r4, r5, r6⟩ := xm_roomn (n := n.toNatClampNeg) h2 hR.2.2.2
  refine W.anew C.1 C.2.1 C.2.2.2.2.1 (hts _ hlink) (va_AO.use (k3 Cn rfl)) rfl hd rfl h0 hb r1 r4 fun cA kA comp f1 f2 f3 f4 => ?_
  have hcA : cA = xm_A g t := by
    obtain ⟨kA', comp', -, -, -, f5⟩ := k2
    exact Option.some.inj (f1.symm.trans f5)
  subst hcA
  generalize hH1 : H.push ({ cls := xm_A g t, slots := Array.replicate n.toNatClampNeg .null, vm := .none } : Cell) = H1
  have hz : H1.size = H.size + 1 := by rw [← hH1, Array.size_push]
  have o1 : ∀ q : Nat, q < H.size → H1[q]? = H[q]? := fun q hq => by rw [← hH1, Array.getElem?_push, if_neg (Nat.ne_of_lt hq)]
  have hat : xm_at g h.2.1 (.inr (t, n.toNatClampNeg, fun _ => .null)) H1 := by
    show H1[h.2.1]? = _
    rw [← hX.1, ← hH1, Array.getElem?_push_size, ← arrV_new]
  rw [hX.1]
  exact kk p e R s m args below meth c H1 locs (cells + 1) (slots + n.toNatClampNeg) Z la C ⟨hR.1, hR.2.1, r2, r5⟩ (hX.push hat hz o1) (hS.made hz o1) hl (fun pc' la' H' locs' I st' a1 a2 a3 a4 => W.cs r3 r6 (kr pc' la' H' locs' I st' a1 a2 a3 a4))
theorem xr_newarr {atype : Jvm.ClassFile.ArrayType} {t : Nat} {n : Int32} {N : Nat} {dv : Value} (hd : decode (xt_code y) pc = .ok (.newarray atype, 2)) (ht : xt_at[t]? = some (newarray.typeOf atype)) (hw : Cond.arrayClass (newarray.typeOf atype) ∈ xt_ws) (hdv : defaultValue (newarray.typeOf atype) = dv) (h0 : ¬ n < 0) (hN : n.toNatClampNeg = N) (hb : N * componentBytes (newarray.typeOf atype) ≤ 536870912) (K : xm_S g d y (pc + 2, ls, .ref h.2.1 :: st) (xm_up h.1 h.2.1 (.inr (t, N, fun _ => dv)), h.2.1 + 1, h.2.2 + N) Q) : xm_S g d y (pc, ls, .int n :: st) h Q := by
  obtain ⟨r, h', hq, h1, h2, h3, kk⟩ := K
  refine ⟨r, h', hq, Nat.le_trans (Nat.le_succ _) h1, Nat.le_trans (Nat.le_add_right _ _) h2, h3, fun p e R s m args below meth c H locs cells slots Z la C hR hX hS hl kr => ?_⟩
  have hts := C.2.2.2.2.2.1
  obtain ⟨k1, k2, k3⟩ := hX.2.2.2.2.2.2 t _ ht
  subst hN
  subst hdv
  obtain ⟨r1, r2, r3⟩ := xm_roomn (n := 1) h1 hR.2.2.1
  obtain ⟨r4, r5, r6⟩ := xm_roomn (n := n.toNatClampNeg) h2 hR.2.2.2
  refine va_newaK C.1 C.2.1 (hts _ hw) rfl hd rfl h0 rfl hb r1 r4 hX.1 fun H1 cA e1 z1 o1 hAr f1 => ?_
  have hcA : cA = xm_A g t := by
    have f5 : s.vm.findClass ("[" ++ (newarray.typeOf atype).toString) = some (xm_A g t) := by
      cases atype <;> exact k2
    exact Option.some.inj (f1.symm.trans f5)
  subst hcA
  have hz : H1.size = H.size + 1 := by rw [z1, hX.1]
  have o2 : ∀ q : Nat, q < H.size → H1[q]? = H[q]? := fun q hq => o1 q (by rw [← hX.1]; exact hq)
  have hat : xm_at g h.2.1 (.inr (t, n.toNatClampNeg, fun _ => defaultValue (newarray.typeOf atype))) H1 := e1
  exact kk p e R s m args below meth c H1 locs (cells + 1) (slots + n.toNatClampNeg) Z la C ⟨hR.1, hR.2.1, r2, r5⟩ (hX.push hat hz o2) (hS.made hz o2) hl (fun pc' la' H' locs' I st' a1 a2 a3 a4 => W.cs r3 r6 (kr pc' la' H' locs' I st' a1 a2 a3 a4))
theorem xr_alen {a t n : Nat} {f : Nat → Value} {ty : FieldType} (hd : decode (xt_code y) pc = .ok (.arraylength, 1)) (ha : h.1 a = some (.inr (t, n, f))) (ht : xt_at[t]? = some ty) (K : xm_S g d y (pc + 1, ls, .int (nI n) :: st) h Q) : xm_S g d y (pc, ls, .ref a :: st) h Q :=
  xm_pure (fun _ _ _ _ _ _ _ _ _ _ _ _ _ _ _ C hX hl kk => W.alen (n := nI n) C.1 C.2.1 (hX.arr ha).2 ((hX.2.2.2.2.2.2 t _ ht).1 n f) (by rw [arrV_size]; rfl) rfl rfl hd kk) K
theorem xr_slen (hd : decode (xt_code y) pc = .ok (.arraylength, 1)) (K : xm_S g d y (pc + 1, ls, .int (nI (xm_n g)) :: st) h Q) : xm_S g d y (pc, ls, .ref (xm_b g) :: st) h Q :=
  xm_pure (fun _ _ _ _ _ _ _ _ _ _ _ _ _ _ _ C hX hl kk => by
    obtain ⟨scr, e1, e2, e3, e4, e5⟩ := hX.2.2.2.1
    exact W.alen (n := nI (xm_n g)) C.1 C.2.1 e1 e2 (by rw [e4]; rfl) rfl rfl hd kk) K
theorem xr_sld {i : Int32} (hd : decode (xt_code y) pc = .ok (.iaload, 1)) (hi : vp_in i (xm_n g)) (K : xm_S g d y (pc + 1, ls, .int (xm_x g i.toNatClampNeg) :: st) h Q) : xm_S g d y (pc, ls, .int i :: .ref (xm_b g) :: st) h Q :=
  xm_pure (fun _ _ _ _ _ _ _ _ _ _ _ _ _ _ _ C hX hl kk => by
    obtain ⟨scr, e1, e2, e3, e4, e5⟩ := hX.2.2.2.1
    exact W.iald (v := .int (xm_x g i.toNatClampNeg)) C.1 C.2.1 e1 e2 e3 (by rw [e4]; exact hi) (e5 _ (Nat.not_le.mp fun q => hi (Or.inr q))) rfl rfl hd kk) K
theorem xr_iald {a t n : Nat} {f : Nat → Value} {i : Int32} {v : Value} (hd : decode (xt_code y) pc = .ok (.iaload, 1)) (ha : h.1 a = some (.inr (t, n, f))) (ht : xt_at[t]? = some .int) (hi : vp_in i n) (hv : f i.toNatClampNeg = v) (K : xm_S g d y (pc + 1, ls, v :: st) h Q) : xm_S g d y (pc, ls, .int i :: .ref a :: st) h Q :=
  xm_pure (fun _ _ _ _ _ _ _ _ _ _ _ _ _ _ _ C hX hl kk => W.iald (v := v) C.1 C.2.1 (hX.arr ha).2 ((hX.2.2.2.2.2.2 t _ ht).1 n f) (fun q => by cases q) (by rw [arrV_size]; exact hi) (by rw [arrV_read _ _ (Nat.not_le.mp fun q => hi (Or.inr q)), hv]) rfl rfl hd kk) K
theorem xr_zald {a t n : Nat} {f : Nat → Value} {i : Int32} {v : Value} (hd : decode (xt_code y) pc = .ok (.baload, 1)) (ha : h.1 a = some (.inr (t, n, f))) (ht : xt_at[t]? = some .boolean) (hi : vp_in i n) (hv : f i.toNatClampNeg = v) (K : xm_S g d y (pc + 1, ls, v :: st) h Q) : xm_S g d y (pc, ls, .int i :: .ref a :: st) h Q :=
  xm_pure (fun _ _ _ _ _ _ _ _ _ _ _ _ _ _ _ C hX hl kk => W.zald (v := v) C.1 C.2.1 (hX.arr ha).2 ((hX.2.2.2.2.2.2 t _ ht).1 n f) (fun q => by cases q) (by rw [arrV_size]; exact hi) (by rw [arrV_read _ _ (Nat.not_le.mp fun q => hi (Or.inr q)), hv]) rfl rfl hd kk) K
theorem xr_aald {a t n : Nat} {f : Nat → Value} {i : Int32} {v : Value} {ty : FieldType} (hd : decode (xt_code y) pc = .ok (.aaload, 1)) (ha : h.1 a = some (.inr (t, n, f))) (ht : xt_at[t]? = some ty) (hr : ty.isReference = true) (hi : vp_in i n) (hv : f i.toNatClampNeg = v) (K : xm_S g d y (pc + 1, ls, v :: st) h Q) : xm_S g d y (pc, ls, .int i :: .ref a :: st) h Q :=
  xm_pure (fun _ _ _ _ _ _ _ _ _ _ _ _ _ _ _ C hX hl kk => W.aald (v := v) (ty := ty) C.1 C.2.1 (hX.arr ha).2 ((hX.2.2.2.2.2.2 t _ ht).1 n f) hr (fun q => by cases q) (by rw [arrV_size]; exact hi) (by rw [arrV_read _ _ (Nat.not_le.mp fun q => hi (Or.inr q)), hv]) rfl rfl hd kk) K
theorem xr_iast {a t n : Nat} {f : Nat → Value} {i x : Int32} (hd : decode (xt_code y) pc = .ok (.iastore, 1)) (ha : h.1 a = some (.inr (t, n, f))) (ht : xt_at[t]? = some .int) (hi : vp_in i n) (K : xm_S g d y (pc + 1, ls, st) (xm_up h.1 a (.inr (t, n, updV f i.toNatClampNeg (.int x))), h.2) Q) : xm_S g d y (pc, ls, .int x :: .int i :: .ref a :: st) h Q := by
  obtain ⟨r, h', hq, h1, h2, h3, kk⟩ := K
  refine ⟨r, h', hq, h1, h2, h3, fun p e R s m args below meth c H locs cells slots Z la C hR hX hS hl kr => ?_⟩
  obtain ⟨hN, hc⟩ := hX.arr ha
  refine W.iast C.1 C.2.1 hc ((hX.2.2.2.2.2.2 t _ ht).1 n f) (fun q => by cases q) (by rw [arrV_size]; exact hi) rfl rfl hd fun H' e1 e2 e3 => ?_
  have hat : xm_at g a (.inr (t, n, updV f i.toNatClampNeg (.int x))) H' := by rw [arrV_store] at e1; exact e1
  exact kk p e R s m args below meth c H' _ cells slots Z la C hR (hX.set hN hat e2 e3) (hS.put e2 e3 hN) hl kr
theorem xr_zast {a t n : Nat} {f : Nat → Value} {i x : Int32} (hd : decode (xt_code y) pc = .ok (.bastore, 1)) (ha : h.1 a = some (.inr (t, n, f))) (ht : xt_at[t]? = some .boolean) (hi : vp_in i n) (hx : narrow .boolean (.int x) = .int x) (K : xm_S g d y (pc + 1, ls, st) (xm_up h.1 a (.inr (t, n, updV f i.toNatClampNeg (.int x))), h.2) Q) : xm_S g d y (pc, ls, .int x :: .int i :: .ref a :: st) h Q := by
  obtain ⟨r, h', hq, h1, h2, h3, kk⟩ := K
  refine ⟨r, h', hq, h1, h2, h3, fun p e R s m args below meth c H locs cells slots Z la C hR hX hS hl kr => ?_⟩
  obtain ⟨hN, hc⟩ := hX.arr ha
  refine W.zast C.1 C.2.1 hc ((hX.2.2.2.2.2.2 t _ ht).1 n f) (fun q => by cases q) (by rw [arrV_size]; exact hi) rfl rfl hd fun H' e1 e2 e3 => ?_
  have hat : xm_at g a (.inr (t, n, updV f i.toNatClampNeg (.int x))) H' := by rw [hx, arrV_store] at e1; exact e1
  exact kk p e R s m args below meth c H' _ cells slots Z la C hR (hX.set hN hat e2 e3) (hS.put e2 e3 hN) hl kr
/-- a reference to an object of the array's own class is stored -/
theorem xr_aast {a t n v ci N : Nat} {fs : List Value} {f : Nat → Value} {i : Int32} {Cn : String} {T : u_T} (hd : decode (xt_code y) pc = .ok (.aastore, 1)) (ha : h.1 a = some (.inr (t, n, f))) (ht : xt_at[t]? = some (.object Cn)) (hc : xt_cl[ci]? = some (Cn, T, N)) (hv : h.1 v = some (.inl (ci, fs))) (hi : vp_in i n) (K : xm_S g d y (pc + 1, ls, st) (xm_up h.1 a (.inr (t, n, updV f i.toNatClampNeg (.ref v))), h.2) Q) : xm_S g d y (pc, ls, .ref v :: .int i :: .ref a :: st) h Q := by
  obtain ⟨r, h', hq, h1, h2, h3, kk⟩ := K
  refine ⟨r, h', hq, h1, h2, h3, fun p e R s m args below meth c H locs cells slots Z la C hR hX hS hl kr => ?_⟩
  obtain ⟨hN, hcell⟩ := hX.arr ha
  have hlt : i.toNatClampNeg < n := Nat.not_le.mp fun q => hi (Or.inr q)
  have hi0 : ¬ i < 0 := fun q => hi (Or.inl q)
  obtain ⟨r', hr', cellV, g1, g2, g3, -⟩ := (hX.obj hv).2.1 0 _ rfl
  have hcls := (hX.2.2.2.2.2.1.1 ci _ hc).2
  obtain ⟨kA, comp, k1, k2, k3, -⟩ := (hX.2.2.2.2.2.2 t _ ht).2.1
  have hcomp : comp = (xm_D g).1 ci := Option.some.inj (k3.symm.trans hcls.1)
  subst hcomp
  obtain ⟨kC, hkC, -⟩ := hcls.2
  refine W.aast C.1 C.2.1 hcell (fun q h => by cases h) (fun h => by cases h) k1 k2 rfl hkC ⟨hi0, by rw [arrV_size]; exact hlt⟩ g1 (fun q h => by rw [g3] at h; cases h) (by rw [g2]; exact hkC) (by rw [g2]; exact va_assign hcls) rfl rfl hd fun H' e1 e2 e3 => ?_
  have hat : xm_at g a (.inr (t, n, updV f i.toNatClampNeg (.ref v))) H' := by rw [arrV_store] at e1; exact e1
  exact kk p e R s m args below meth c H' _ cells slots Z la C hR (hX.set hN hat e2 e3) (hS.put e2 e3 hN) hl kr
end XHeap
end
section
/-! calls: a judgement of the callee is a contract, and a row of the caller -/
def xm_ws (z : xm_M) : List Cond := .code (xt_y z) (xt_code z) (xt_maxL z) (xt_ret z) :: xt_ws
def xm_Qc (g : xm_G) (r : Option Value) (h' : xm_H) : Array Value → State → Outcome → State → Prop := fun _ st o t => (o = .returned r ∧ xm_R g h' t t.heap) ∧ va_F (fun q => xm_N g ≤ q) st t
def xm_entry (z : xm_M) (as : List Value) : xm_F := (0, as.map some ++ List.replicate (xt_maxL z - as.length) none, [])
theorem xm_sl {as : List Value} (h : ∀ v ∈ as, v.category = 1) : lg_sl as = as.map Slot.val := by
  induction as with
  | nil => rfl
  | cons v vs ih =>
    have h1 := h v List.mem_cons_self
    have h2 := ih (fun w hw => h w (List.mem_cons_of_mem _ hw))
    unfold lg_sl at h2 ⊢
    rw [List.flatMap_cons, h2, if_neg (by omega)]
    rfl
theorem xm_L.entry {z : xm_M} {as : List Value} (h : ∀ v ∈ as, v.category = 1) (hn : as.length ≤ xt_maxL z) : xm_L ((lg_sl as ++ List.replicate (xt_maxL z - (lg_sl as).length) Slot.unset).toArray) (xm_entry z as).2.1 := by
  have hs := xm_sl h
  have hl := lv_entry as (n := xt_maxL z) (by rw [hs, List.length_map]; exact hn)
  refine ⟨?_, hl.2.1, fun k v hk => ?_⟩
  · rw [hl.1]
    simp [xm_entry]
    omega
  · have hk2 : (as.map some ++ List.replicate (xt_maxL z - as.length) none)[k]? = some (some v) := hk
    by_cases hka : k < as.length
    · rw [List.getElem?_append_left (by rw [List.length_map]; exact hka), List.getElem?_map] at hk2
      cases hv : as[k]? with
      | none => rw [hv] at hk2; cases hk2
      | some w =>
        rw [hv] at hk2
        cases hk2
        refine ⟨?_, h v (List.mem_of_getElem? hv)⟩
        rw [hs, List.getElem?_toArray, List.getElem?_append_left (by rw [List.length_map]; exact hka), List.getElem?_map, hv]
        rfl
    · rw [List.getElem?_append_right (by rw [List.length_map]; omega)] at hk2
      have := List.eq_of_mem_replicate (List.mem_of_getElem? hk2)
      cases this
theorem xm_met {g : xm_G} {d : Nat} {z : xm_M} {as : List Value} {h h' : xm_H} {r : Option Value} (hz : xm_okM z) (hc : ∀ v ∈ as, v.category = 1) (hn : as.length ≤ xt_maxL z)
    (k : ∀ (p : Program) (e : Env) (R : Room) (s : State) (m : MethodId) (args : Array Value) (below : List Frame) (meth : Method) (c : Code) (H : Heap) (locs : List Loc) (cells slots : Nat) (Z : State → Prop) (la : Array Slot),
    xm_C p s m args meth c z → (d ≤ R.frames ∧ d * xt_LM ≤ R.locals ∧ cells + (h'.2.1 - h.2.1) ≤ R.cells ∧ slots + (h'.2.2 - h.2.2) ≤ R.slots) →
    xm_R g h s H → va_S (fun q => xm_N g ≤ q) s.heap H locs → xm_L la (xm_entry z as).2.1 →
    (∀ (pc' : Nat) (la' : Array Slot) (H' : Heap) (locs' : List Loc) (I : Jvm.ClassFile.Instr) (st' : List Value), decode (xt_code z) pc' = .ok (I, 1) → xm_ret z I st' r → xm_R g h' s H' → va_S (fun q => xm_N g ≤ q) s.heap H' locs' →
      W p (xm_l g) e R s m args below meth c H' locs' (cells + (h'.2.1 - h.2.1)) (slots + (h'.2.2 - h.2.2)) Z (F0 m pc' la' st')) →
    W p (xm_l g) e R s m args below meth c H locs cells slots Z (F0 m (xm_entry z as).1 la (xm_entry z as).2.2)) :
    Met (xm_l g) (xt_y z) (xm_ws z) { frames := d, cells := h'.2.1 - h.2.1, slots := h'.2.2 - h.2.2, locals := d * xt_LM } (va_Pc as fun U => xm_R g h U U.heap) (xm_Qc g r h') (h'.2.1 - h.2.1) (h'.2.2 - h.2.2) (fun q => xm_N g ≤ q) := by
  refine Met.ofW (cc := xt_code z) (maxL := xt_maxL z) (ret := xt_ret z) hz.1 rfl ?_
  intro p e s m args below meth c s₁ B hml hv
  obtain ⟨rfl, hX⟩ := hv
  have hts := atoms_spec (ws := xm_ws z) B.pre
  have hown : s.vm.findClass (xt_y z).cls = some m.cls := findClass_of_methodNamed B.named
  have hnm := (name_of_methodNamed B.named B.method).1
  have hlocks := B.notSynchronized
  rw [hz.2.1] at hown
  have C : xm_C p s m as.toArray meth c z := ⟨B.exec, B.bytes, B.returns, hml, hown, fun w hw => hts w (List.mem_cons_of_mem _ hw), hlocks, fun h9 => hnm.trans h9⟩
  rw [lg_entry_eq]
  refine k p e _ s m _ below meth c s.heap [] 0 0 _ _ C ⟨Nat.le_refl _, Nat.le_refl _, Nat.le_of_eq (Nat.zero_add _), Nat.le_of_eq (Nat.zero_add _)⟩ hX va_S.rf (xm_L.entry hc hn) ?_
  intro pc' la' H' locs' I st' hd hret hX' hS'
  refine W.cs (Nat.zero_add _) (Nat.zero_add _) ?_
  have hq : ∀ t : State, t.heap = H' → s.WarmedH t.vm → xm_Qc g r h' as.toArray s (.returned r) t := fun t ht hW => ⟨⟨rfl, by rw [ht]; exact hX'.moved hW.alike⟩, hS'.F ht⟩
  rcases hret with ⟨rfl, v, ty, rfl, rfl, hty, hnv⟩ | ⟨rfl, rfl, rfl, hty⟩ | ⟨rfl, v, ty, rfl, rfl, hty, hrt, hv⟩
  · exact W.zret (ty := ty) C.1 C.2.1 (C.2.2.1.trans hty) hnv hq hS'.2.2 hd hlocks
  · exact W.vret C.1 C.2.1 (C.2.2.1.trans hty) hq hS'.2.2 hd hlocks
  · exact W.aret C.1 C.2.1 (C.2.2.1.trans hty) hrt hv hq hS'.2.2 hd hlocks
theorem xm_blind {g : xm_G} {h : xm_H} {as : List Value} : FrameBlind (va_Pc as fun U => xm_R g h U U.heap) := fun a U f mk q => ⟨q.1, xm_R.moved (u := U) (U := U.calling f mk a) (Vm.Alike.refl U.vm) q.2⟩
theorem xm_cont {g : xm_G} {p : Program} {e : Env} {R : Room} {s : State} {m : MethodId} {args : Array Value} {below : List Frame} {meth : Method} {c : Code} {H : Heap} {locs : List Loc} {cells slots mc ms : Nat} {Z : State → Prop} {pc : Nat} {la : Array Slot} {st0 rest : List Value} {r : Option Value} {h' : xm_H} {a : Array Value} {H0 : Heap}
    (hr : va_Run p (xm_l g) e R s m args below meth c H locs cells slots mc ms (F0 m pc la st0) rest (xm_Qc g r h' a) (fun q => xm_N g ≤ q)) (hS : va_S (fun q => xm_N g ≤ q) H0 H locs)
    (kk : ∀ (H1 : Heap) (locs1 : List Loc), xm_R g h' s H1 → va_S (fun q => xm_N g ≤ q) H0 H1 locs1 → W p (xm_l g) e R s m args below meth c H1 locs1 (cells + mc) (slots + ms) Z (F0 m (pc + 3) la (r.toList ++ rest))) : W p (xm_l g) e R s m args below meth c H locs cells slots Z (F0 m pc la st0) := by
  intro T hT X
  obtain ⟨v, st₀, t, T', L, h0, X', hL, e1, e2, ⟨⟨hv, hb⟩, hz, hk⟩, st⟩ := hr T hT X
  cases hv
  rw [h0] at hz hk
  have hal : s.vm.Alike t.vm := by rw [← e2]; exact X'.warmed.alike
  obtain ⟨t2, a1, b1⟩ := kk T'.heap (locs ++ L) (by rw [e1]; exact hb.moved hal.symm)
    ⟨Nat.le_trans hS.1 (by rw [e1]; exact hz), fun q h1 h2 => by rw [e1, hk q (Nat.lt_of_lt_of_le h1 hS.1) h2]; exact hS.2.1 q h1 h2, fun q hq => by
      rcases List.mem_append.mp hq with h | h
      · exact hS.2.2 q h
      · exact hL q h⟩ T' rfl X'
  exact ⟨t2, st t2 a1, b1⟩
theorem xm_good (z : xm_M) (hz : xm_okM z) : GoodIn xt_ws (xm_ws z) := fun w hw => by
  rcases List.mem_cons.mp hw with rfl | h
  · exact ⟨hz.2.2.1, xt_good _ hz.2.2.1⟩
  · exact ⟨h, xt_good _ h⟩
theorem xm_roomc {a b c e R : Nat} (h1 : b ≤ c) (h2 : c ≤ e) (hr : a + (e - b) ≤ R) : a + (c - b) ≤ R ∧ a + (c - b) + (e - c) ≤ R ∧ a + (c - b) + (e - c) = a + (e - b) := by omega
theorem xm_rooml {d n k R : Nat} (hk : n + 19 ≤ k) (hr : (d + 1) * k ≤ R) : 8 + (n + 11) + d * k ≤ R := by
  rw [Nat.succ_mul] at hr
  omega
section XCall
variable {g : xm_G} {d pc : Nat} {y : xm_M} {ls : List (Option Value)} {st : List Value} {h : xm_H} {Q Qz : Option Value → xm_H → Prop} {z : xm_M} {i : Nat} {as rest : List Value}
theorem xr_callV {b : Nat} {fs : List Value} (hd : decode (xt_code y) pc = .ok (.invokevirtual i, 3)) (hm : xm_okV (xt_own y) i z) (hst : st = as.reverse ++ .ref b :: rest) (hb : h.1 b = some (.inl (xt_own z, fs))) (hn : as.length = xt_np z) (hc : ∀ v ∈ as, v.category = 1) (hrest : (rest.map fun v => v.category).sum ≤ 8)
    (Cz : xm_S g d z (xm_entry z (.ref b :: as)) h Qz) (K : ∀ (r : Option Value) (h' : xm_H), Qz r h' → xm_S g (d + 1) y (pc + 3, ls, r.toList ++ rest) h' Q) : xm_S g (d + 1) y (pc, ls, st) h Q := by
  obtain ⟨r, h', hq, h1, h2, -, k⟩ := Cz
  obtain ⟨r2, h2', hq2, g1, g2, g3, k2⟩ := K r h' hq
  obtain ⟨hz, hlink, hinst, hsel, hmx, T, N, hcl⟩ := hm
  refine ⟨r2, h2', hq2, Nat.le_trans h1 g1, Nat.le_trans h2 g2, g3, fun p e R s m args below meth c H locs cells slots Z la C hR hX hS hl kr => ?_⟩
  have hts := C.2.2.2.2.2.1
  have hc2 : ∀ v ∈ Value.ref b :: as, v.category = 1 := fun v hv => by
    rcases List.mem_cons.mp hv with rfl | h
    · rfl
    · exact hc v h
  have hM := xm_met (g := g) hz hc2 (by rw [List.length_cons, hn]; exact hmx) k
  obtain ⟨r1, r3, r4⟩ := xm_roomc h1 g1 hR.2.2.1
  obtain ⟨r5, r6, r7⟩ := xm_roomc h2 g2 hR.2.2.2
  have cw : CallW R s args (xt_nm (xt_own y)) (xt_y z).cls i (xt_y z) (xt_code z) (xt_maxL z) (xt_ret z) (xm_ws z) { frames := d, cells := h'.2.1 - h.2.1, slots := h'.2.2 - h.2.2, locals := d * xt_LM } (h'.2.1 - h.2.1) (h'.2.2 - h.2.2) (xt_np z) :=
    ⟨callB_of (xt_np z) hts (xm_good z hz) rfl rfl rfl (hts _ hz.2.2.2.1) (hts _ hlink) hz.2.2.2.2.1 ⟨hR.1, xm_rooml hz.2.2.2.2.2 hR.2.1⟩, hts _ hinst, hts _ hsel⟩
  have hrv : ∃ cellB : Cell, H[b]? = some cellB ∧ cellB.vm.isStatics = false ∧ s.vm.findClass (xt_y z).cls = some cellB.cls := by
    rw [hz.2.1]
    exact va_recv (q := (xt_nm (xt_own z), T, N)) hX.2.2.2.2.2.1 (hX.obj hb).2.1 hcl (q0 := 0) rfl
  refine xm_cont (r := r) (va_runV (As := as) (rest := rest) (b := b) (nL := xt_maxL y) ⟨C.1, C.2.1, C.2.2.2.1, C.2.2.2.2.1, hts⟩ hM cw ⟨xm_blind, hrv, fun U hU hW => ⟨rfl, by show xm_R g h U U.heap; rw [hU]; exact hX.moved hW.alike⟩⟩ rfl hn (by rw [← g3]; exact hl.1) hst (lv_room hrest) hd ⟨r1, r5⟩) hS (fun H1 locs1 hX1 hS1 => ?_)
  exact k2 p e R s m args below meth c H1 locs1 _ _ Z la C ⟨hR.1, hR.2.1, r3, r6⟩ hX1 hS1 hl (fun pc' la' H' locs' I st' a1 a2 a3 a4 => W.cs r4 r7 (kr pc' la' H' locs' I st' a1 a2 a3 a4))
theorem xr_callS (hd : decode (xt_code y) pc = .ok (.invokestatic i, 3)) (hm : xm_okS (xt_own y) i z) (hst : st = as.reverse ++ rest) (hn : as.length = xt_np z) (hc : ∀ v ∈ as, v.category = 1) (hrest : (rest.map fun v => v.category).sum ≤ 8)
    (Cz : xm_S g d z (xm_entry z as) h Qz) (K : ∀ (r : Option Value) (h' : xm_H), Qz r h' → xm_S g (d + 1) y (pc + 3, ls, r.toList ++ rest) h' Q) : xm_S g (d + 1) y (pc, ls, st) h Q := by
  obtain ⟨r, h', hq, h1, h2, -, k⟩ := Cz
  obtain ⟨r2, h2', hq2, g1, g2, g3, k2⟩ := K r h' hq
  obtain ⟨hz, hlink, hstc, hmx⟩ := hm
  refine ⟨r2, h2', hq2, Nat.le_trans h1 g1, Nat.le_trans h2 g2, g3, fun p e R s m args below meth c H locs cells slots Z la C hR hX hS hl kr => ?_⟩
  have hts := C.2.2.2.2.2.1
  have hM := xm_met (g := g) hz hc (by rw [hn]; exact hmx) k
  obtain ⟨r1, r3, r4⟩ := xm_roomc h1 g1 hR.2.2.1
  obtain ⟨r5, r6, r7⟩ := xm_roomc h2 g2 hR.2.2.2
  have cw : CallB R s args (xt_nm (xt_own y)) i (xt_y z) (xt_code z) (xt_maxL z) (xt_ret z) (xm_ws z) { frames := d, cells := h'.2.1 - h.2.1, slots := h'.2.2 - h.2.2, locals := d * xt_LM } (h'.2.1 - h.2.1) (h'.2.2 - h.2.2) (xt_np z) ∧ (Cond.static (xt_y z)).before args s = true :=
    ⟨callB_of (xt_np z) hts (xm_good z hz) rfl rfl rfl (hts _ hz.2.2.2.1) (hts _ hlink) hz.2.2.2.2.1 ⟨hR.1, xm_rooml hz.2.2.2.2.2 hR.2.1⟩, hts _ hstc⟩
  refine xm_cont (r := r) (va_runS (As := as) (rest := rest) (nL := xt_maxL y) ⟨C.1, C.2.1, C.2.2.2.1, C.2.2.2.2.1, hts⟩ hM cw ⟨xm_blind, fun U hU hW => ⟨rfl, by show xm_R g h U U.heap; rw [hU]; exact hX.moved hW.alike⟩⟩ rfl hn (by rw [← g3]; exact hl.1) hst (lv_room hrest) hd ⟨r1, r5⟩) hS (fun H1 locs1 hX1 hS1 => ?_)
  exact k2 p e R s m args below meth c H1 locs1 _ _ Z la C ⟨hR.1, hR.2.1, r3, r6⟩ hX1 hS1 hl (fun pc' la' H' locs' I st' a1 a2 a3 a4 => W.cs r4 r7 (kr pc' la' H' locs' I st' a1 a2 a3 a4))
theorem xr_callI {b : Nat} (hd : decode (xt_code y) pc = .ok (.invokespecial i, 3)) (hm : xm_okI (xt_own y) i z) (hst : st = as.reverse ++ .ref b :: rest) (hn : as.length = xt_np z) (hc : ∀ v ∈ as, v.category = 1) (hrest : (rest.map fun v => v.category).sum ≤ 8)
    (Cz : xm_S g d z (xm_entry z (.ref b :: as)) h Qz) (K : ∀ (r : Option Value) (h' : xm_H), Qz r h' → xm_S g (d + 1) y (pc + 3, ls, r.toList ++ rest) h' Q) : xm_S g (d + 1) y (pc, ls, st) h Q := by
  obtain ⟨r, h', hq, h1, h2, -, k⟩ := Cz
  obtain ⟨r2, h2', hq2, g1, g2, g3, k2⟩ := K r h' hq
  obtain ⟨hz, hlink, hinst, hname, hret, hmx⟩ := hm
  refine ⟨r2, h2', hq2, Nat.le_trans h1 g1, Nat.le_trans h2 g2, g3, fun p e R s m args below meth c H locs cells slots Z la C hR hX hS hl kr => ?_⟩
  have hts := C.2.2.2.2.2.1
  have hc2 : ∀ v ∈ Value.ref b :: as, v.category = 1 := fun v hv => by
    rcases List.mem_cons.mp hv with rfl | h
    · rfl
    · exact hc v h
  have hM := xm_met (g := g) hz hc2 (by rw [List.length_cons, hn]; exact hmx) k
  obtain ⟨r1, r3, r4⟩ := xm_roomc h1 g1 hR.2.2.1
  obtain ⟨r5, r6, r7⟩ := xm_roomc h2 g2 hR.2.2.2
  have cw : CallB R s args (xt_nm (xt_own y)) i (xt_y z) (xt_code z) (xt_maxL z) none (xm_ws z) { frames := d, cells := h'.2.1 - h.2.1, slots := h'.2.2 - h.2.2, locals := d * xt_LM } (h'.2.1 - h.2.1) (h'.2.2 - h.2.2) (xt_np z) ∧ (xt_y z).name = "<init>" ∧ (Cond.instanceMethod (xt_y z)).before args s = true :=
    ⟨callB_of (xt_np z) hts (xm_good z hz) (by unfold xm_ws; rw [hret]) rfl rfl (hts _ hz.2.2.2.1) (hts _ hlink) hz.2.2.2.2.1 ⟨hR.1, xm_rooml hz.2.2.2.2.2 hR.2.1⟩, hname, hts _ hinst⟩
  refine xm_cont (r := r) (va_runI (As := as) (rest := rest) (b := b) (nL := xt_maxL y) ⟨C.1, C.2.1, C.2.2.2.1, C.2.2.2.2.1, hts⟩ hM cw ⟨xm_blind, fun U hU hW => ⟨rfl, by show xm_R g h U U.heap; rw [hU]; exact hX.moved hW.alike⟩⟩ rfl hn (by rw [← g3]; exact hl.1) hst (lv_room hrest) hd ⟨r1, r5⟩) hS (fun H1 locs1 hX1 hS1 => ?_)
  exact k2 p e R s m args below meth c H1 locs1 _ _ Z la C ⟨hR.1, hR.2.1, r3, r6⟩ hX1 hS1 hl (fun pc' la' H' locs' I st' a1 a2 a3 a4 => W.cs r4 r7 (kr pc' la' H' locs' I st' a1 a2 a3 a4))
/-- Object's constructor -/
theorem xr_objInit {a : Nat} (hd : decode (xt_code y) pc = .ok (.invokespecial i, 3)) (hm : xm_okO (xt_own y) i) (hrest : (rest.map fun v => v.category).sum ≤ 8) (K : xm_S g (d + 1) y (pc + 3, ls, rest) h Q) : xm_S g (d + 1) y (pc, ls, .ref a :: rest) h Q := by
  obtain ⟨r2, h2', hq2, g1, g2, g3, k2⟩ := K
  obtain ⟨w1, w2, w3⟩ := hm
  refine ⟨r2, h2', hq2, g1, g2, g3, fun p e R s m args below meth c H locs cells slots Z la C hR hX hS hl kr => ?_⟩
  have hts := C.2.2.2.2.2.1
  refine W.objInit C.1 C.2.1 C.2.2.2.2.1 (hts _ w1) (hts _ w2) (hts _ w3) rfl (by rw [C.2.2.2.1, ← g3]; exact hl.1) rfl hd (Nat.le_trans (Nat.le_add_left 1 d) hR.1) ?_ ?_
  · have h0 := hR.2.1
    rw [Nat.succ_mul] at h0
    have h1 : 20 ≤ xt_LM := by decide
    show 2 * 0 + _ + 12 ≤ _
    omega
  · exact k2 p e R s m args below meth c H locs cells slots Z la C hR hX hS hl kr
end XCall
end
section
/-! calls by the number of their arguments and the kind of their answer -/
def xq_i (P : Int32 → xm_H → Prop) : Option Value → xm_H → Prop := fun r h' => ∃ v : Int32, r = some (.int v) ∧ P v h'
def xq_v (P : xm_H → Prop) : Option Value → xm_H → Prop := fun r h' => r = none ∧ P h'
def xq_r (P : Option Nat → xm_H → Prop) : Option Value → xm_H → Prop := fun r h' => ∃ v : Option Nat, r = some (va_rf v) ∧ P v h'
section XCalls
variable {g : xm_G} {d d' pc : Nat} {y z : xm_M} {ls : List (Option Value)} {h : xm_H} {Q : Option Value → xm_H → Prop} {i : Nat} {rest : List Value}
theorem xr_V0i {b : Nat} {fs : List Value} {P : Int32 → xm_H → Prop} (hd : decode (xt_code y) pc = .ok (.invokevirtual i, 3)) (hm : xm_okV (xt_own y) i z) (hb : h.1 b = some (.inl (xt_own z, fs))) (hn : xt_np z = 0) (hr : (rest.map fun v => v.category).sum ≤ 8) (hdd : d' < d)
    (Cz : xm_S g d' z (xm_entry z [.ref b]) h (xq_i P)) (K : ∀ (v : Int32) (h' : xm_H), P v h' → xm_S g d y (pc + 3, ls, .int v :: rest) h' Q) : xm_S g d y (pc, ls, .ref b :: rest) h Q := by
  cases d with
  | zero => exact absurd hdd (Nat.not_lt_zero _)
  | succ d => exact xr_callV (as := []) (rest := rest) hd hm rfl hb hn.symm (fun v hv => by simp at hv) hr (Cz.up (Nat.le_of_lt_succ hdd)) (fun r h' e => by obtain ⟨v, rfl, e⟩ := e; exact K v h' e)
theorem xr_V0v {b : Nat} {fs : List Value} {P : xm_H → Prop} (hd : decode (xt_code y) pc = .ok (.invokevirtual i, 3)) (hm : xm_okV (xt_own y) i z) (hb : h.1 b = some (.inl (xt_own z, fs))) (hn : xt_np z = 0) (hr : (rest.map fun v => v.category).sum ≤ 8) (hdd : d' < d)
    (Cz : xm_S g d' z (xm_entry z [.ref b]) h (xq_v P)) (K : ∀ h' : xm_H, P h' → xm_S g d y (pc + 3, ls, rest) h' Q) : xm_S g d y (pc, ls, .ref b :: rest) h Q := by
  cases d with
  | zero => exact absurd hdd (Nat.not_lt_zero _)
  | succ d => exact xr_callV (as := []) (rest := rest) hd hm rfl hb hn.symm (fun v hv => by simp at hv) hr (Cz.up (Nat.le_of_lt_succ hdd)) (fun r h' e => by obtain ⟨rfl, e⟩ := e; exact K h' e)
theorem xr_V0r {b : Nat} {fs : List Value} {P : Option Nat → xm_H → Prop} (hd : decode (xt_code y) pc = .ok (.invokevirtual i, 3)) (hm : xm_okV (xt_own y) i z) (hb : h.1 b = some (.inl (xt_own z, fs))) (hn : xt_np z = 0) (hr : (rest.map fun v => v.category).sum ≤ 8) (hdd : d' < d)
    (Cz : xm_S g d' z (xm_entry z [.ref b]) h (xq_r P)) (K : ∀ (v : Option Nat) (h' : xm_H), P v h' → xm_S g d y (pc + 3, ls, va_rf v :: rest) h' Q) : xm_S g d y (pc, ls, .ref b :: rest) h Q := by
  cases d with
  | zero => exact absurd hdd (Nat.not_lt_zero _)
  | succ d => exact xr_callV (as := []) (rest := rest) hd hm rfl hb hn.symm (fun v hv => by simp at hv) hr (Cz.up (Nat.le_of_lt_succ hdd)) (fun r h' e => by obtain ⟨v, rfl, e⟩ := e; exact K v h' e)
theorem xr_V1i {b : Nat} {fs : List Value} {a1 : Value} {P : Int32 → xm_H → Prop} (hd : decode (xt_code y) pc = .ok (.invokevirtual i, 3)) (hm : xm_okV (xt_own y) i z) (hb : h.1 b = some (.inl (xt_own z, fs))) (hn : xt_np z = 1) (c1 : a1.category = 1) (hr : (rest.map fun v => v.category).sum ≤ 8) (hdd : d' < d)
    (Cz : xm_S g d' z (xm_entry z [.ref b, a1]) h (xq_i P)) (K : ∀ (v : Int32) (h' : xm_H), P v h' → xm_S g d y (pc + 3, ls, .int v :: rest) h' Q) : xm_S g d y (pc, ls, a1 :: .ref b :: rest) h Q := by
  cases d with
  | zero => exact absurd hdd (Nat.not_lt_zero _)
  | succ d => exact xr_callV (as := [a1]) (rest := rest) hd hm rfl hb hn.symm (fun v hv => by simp at hv; rcases hv with rfl <;> assumption) hr (Cz.up (Nat.le_of_lt_succ hdd)) (fun r h' e => by obtain ⟨v, rfl, e⟩ := e; exact K v h' e)
theorem xr_V1v {b : Nat} {fs : List Value} {a1 : Value} {P : xm_H → Prop} (hd : decode (xt_code y) pc = .ok (.invokevirtual i, 3)) (hm : xm_okV (xt_own y) i z) (hb : h.1 b = some (.inl (xt_own z, fs))) (hn : xt_np z = 1) (c1 : a1.category = 1) (hr : (rest.map fun v => v.category).sum ≤ 8) (hdd : d' < d)
    (Cz : xm_S g d' z (xm_entry z [.ref b, a1]) h (xq_v P)) (K : ∀ h' : xm_H, P h' → xm_S g d y (pc + 3, ls, rest) h' Q) : xm_S g d y (pc, ls, a1 :: .ref b :: rest) h Q := by
  cases d with
  | zero => exact absurd hdd (Nat.not_lt_zero _)
  | succ d => exact xr_callV (as := [a1]) (rest := rest) hd hm rfl hb hn.symm (fun v hv => by simp at hv; rcases hv with rfl <;> assumption) hr (Cz.up (Nat.le_of_lt_succ hdd)) (fun r h' e => by obtain ⟨rfl, e⟩ := e; exact K h' e)
theorem xr_V1r {b : Nat} {fs : List Value} {a1 : Value} {P : Option Nat → xm_H → Prop} (hd : decode (xt_code y) pc = .ok (.invokevirtual i, 3)) (hm : xm_okV (xt_own y) i z) (hb : h.1 b = some (.inl (xt_own z, fs))) (hn : xt_np z = 1) (c1 : a1.category = 1) (hr : (rest.map fun v => v.category).sum ≤ 8) (hdd : d' < d)
    (Cz : xm_S g d' z (xm_entry z [.ref b, a1]) h (xq_r P)) (K : ∀ (v : Option Nat) (h' : xm_H), P v h' → xm_S g d y (pc + 3, ls, va_rf v :: rest) h' Q) : xm_S g d y (pc, ls, a1 :: .ref b :: rest) h Q := by
  cases d with
  | zero => exact absurd hdd (Nat.not_lt_zero _)
  | succ d => exact xr_callV (as := [a1]) (rest := rest) hd hm rfl hb hn.symm (fun v hv => by simp at hv; rcases hv with rfl <;> assumption) hr (Cz.up (Nat.le_of_lt_succ hdd)) (fun r h' e => by obtain ⟨v, rfl, e⟩ := e; exact K v h' e)
theorem xr_V2i {b : Nat} {fs : List Value} {a1 a2 : Value} {P : Int32 → xm_H → Prop} (hd : decode (xt_code y) pc = .ok (.invokevirtual i, 3)) (hm : xm_okV (xt_own y) i z) (hb : h.1 b = some (.inl (xt_own z, fs))) (hn : xt_np z = 2) (c1 : a1.category = 1) (c2 : a2.category = 1) (hr : (rest.map fun v => v.category).sum ≤ 8) (hdd : d' < d)
    (Cz : xm_S g d' z (xm_entry z [.ref b, a1, a2]) h (xq_i P)) (K : ∀ (v : Int32) (h' : xm_H), P v h' → xm_S g d y (pc + 3, ls, .int v :: rest) h' Q) : xm_S g d y (pc, ls, a2 :: a1 :: .ref b :: rest) h Q := by
  cases d with
  | zero => exact absurd hdd (Nat.not_lt_zero _)
  | succ d => exact xr_callV (as := [a1, a2]) (rest := rest) hd hm rfl hb hn.symm (fun v hv => by simp at hv; rcases hv with rfl | rfl <;> assumption) hr (Cz.up (Nat.le_of_lt_succ hdd)) (fun r h' e => by obtain ⟨v, rfl, e⟩ := e; exact K v h' e)
theorem xr_V2v {b : Nat} {fs : List Value} {a1 a2 : Value} {P : xm_H → Prop} (hd : decode (xt_code y) pc = .ok (.invokevirtual i, 3)) (hm : xm_okV (xt_own y) i z) (hb : h.1 b = some (.inl (xt_own z, fs))) (hn : xt_np z = 2) (c1 : a1.category = 1) (c2 : a2.category = 1) (hr : (rest.map fun v => v.category).sum ≤ 8) (hdd : d' < d)
    (Cz : xm_S g d' z (xm_entry z [.ref b, a1, a2]) h (xq_v P)) (K : ∀ h' : xm_H, P h' → xm_S g d y (pc + 3, ls, rest) h' Q) : xm_S g d y (pc, ls, a2 :: a1 :: .ref b :: rest) h Q := by
  cases d with
  | zero => exact absurd hdd (Nat.not_lt_zero _)
  | succ d => exact xr_callV (as := [a1, a2]) (rest := rest) hd hm rfl hb hn.symm (fun v hv => by simp at hv; rcases hv with rfl | rfl <;> assumption) hr (Cz.up (Nat.le_of_lt_succ hdd)) (fun r h' e => by obtain ⟨rfl, e⟩ := e; exact K h' e)
theorem xr_V2r {b : Nat} {fs : List Value} {a1 a2 : Value} {P : Option Nat → xm_H → Prop} (hd : decode (xt_code y) pc = .ok (.invokevirtual i, 3)) (hm : xm_okV (xt_own y) i z) (hb : h.1 b = some (.inl (xt_own z, fs))) (hn : xt_np z = 2) (c1 : a1.category = 1) (c2 : a2.category = 1) (hr : (rest.map fun v => v.category).sum ≤ 8) (hdd : d' < d)
    (Cz : xm_S g d' z (xm_entry z [.ref b, a1, a2]) h (xq_r P)) (K : ∀ (v : Option Nat) (h' : xm_H), P v h' → xm_S g d y (pc + 3, ls, va_rf v :: rest) h' Q) : xm_S g d y (pc, ls, a2 :: a1 :: .ref b :: rest) h Q := by
  cases d with
  | zero => exact absurd hdd (Nat.not_lt_zero _)
  | succ d => exact xr_callV (as := [a1, a2]) (rest := rest) hd hm rfl hb hn.symm (fun v hv => by simp at hv; rcases hv with rfl | rfl <;> assumption) hr (Cz.up (Nat.le_of_lt_succ hdd)) (fun r h' e => by obtain ⟨v, rfl, e⟩ := e; exact K v h' e)
theorem xr_V3i {b : Nat} {fs : List Value} {a1 a2 a3 : Value} {P : Int32 → xm_H → Prop} (hd : decode (xt_code y) pc = .ok (.invokevirtual i, 3)) (hm : xm_okV (xt_own y) i z) (hb : h.1 b = some (.inl (xt_own z, fs))) (hn : xt_np z = 3) (c1 : a1.category = 1) (c2 : a2.category = 1) (c3 : a3.category = 1) (hr : (rest.map fun v => v.category).sum ≤ 8) (hdd : d' < d)
    (Cz : xm_S g d' z (xm_entry z [.ref b, a1, a2, a3]) h (xq_i P)) (K : ∀ (v : Int32) (h' : xm_H), P v h' → xm_S g d y (pc + 3, ls, .int v :: rest) h' Q) : xm_S g d y (pc, ls, a3 :: a2 :: a1 :: .ref b :: rest) h Q := by
  cases d with
  | zero => exact absurd hdd (Nat.not_lt_zero _)
  | succ d => exact xr_callV (as := [a1, a2, a3]) (rest := rest) hd hm rfl hb hn.symm (fun v hv => by simp at hv; rcases hv with rfl | rfl | rfl <;> assumption) hr (Cz.up (Nat.le_of_lt_succ hdd)) (fun r h' e => by obtain ⟨v, rfl, e⟩ := e; exact K v h' e)
theorem xr_V3v {b : Nat} {fs : List Value} {a1 a2 a3 : Value} {P : xm_H → Prop} (hd : decode (xt_code y) pc = .ok (.invokevirtual i, 3)) (hm : xm_okV (xt_own y) i z) (hb : h.1 b = some (.inl (xt_own z, fs))) (hn : xt_np z = 3) (c1 : a1.category = 1) (c2 : a2.category = 1) (c3 : a3.category = 1) (hr : (rest.map fun v => v.category).sum ≤ 8) (hdd : d' < d)
    (Cz : xm_S g d' z (xm_entry z [.ref b, a1, a2, a3]) h (xq_v P)) (K : ∀ h' : xm_H, P h' → xm_S g d y (pc + 3, ls, rest) h' Q) : xm_S g d y (pc, ls, a3 :: a2 :: a1 :: .ref b :: rest) h Q := by
  cases d with
  | zero => exact absurd hdd (Nat.not_lt_zero _)
  | succ d => exact xr_callV (as := [a1, a2, a3]) (rest := rest) hd hm rfl hb hn.symm (fun v hv => by simp at hv; rcases hv with rfl | rfl | rfl <;> assumption) hr (Cz.up (Nat.le_of_lt_succ hdd)) (fun r h' e => by obtain ⟨rfl, e⟩ := e; exact K h' e)
theorem xr_V3r {b : Nat} {fs : List Value} {a1 a2 a3 : Value} {P : Option Nat → xm_H → Prop} (hd : decode (xt_code y) pc = .ok (.invokevirtual i, 3)) (hm : xm_okV (xt_own y) i z) (hb : h.1 b = some (.inl (xt_own z, fs))) (hn : xt_np z = 3) (c1 : a1.category = 1) (c2 : a2.category = 1) (c3 : a3.category = 1) (hr : (rest.map fun v => v.category).sum ≤ 8) (hdd : d' < d)
    (Cz : xm_S g d' z (xm_entry z [.ref b, a1, a2, a3]) h (xq_r P)) (K : ∀ (v : Option Nat) (h' : xm_H), P v h' → xm_S g d y (pc + 3, ls, va_rf v :: rest) h' Q) : xm_S g d y (pc, ls, a3 :: a2 :: a1 :: .ref b :: rest) h Q := by
  cases d with
  | zero => exact absurd hdd (Nat.not_lt_zero _)
  | succ d => exact xr_callV (as := [a1, a2, a3]) (rest := rest) hd hm rfl hb hn.symm (fun v hv => by simp at hv; rcases hv with rfl | rfl | rfl <;> assumption) hr (Cz.up (Nat.le_of_lt_succ hdd)) (fun r h' e => by obtain ⟨v, rfl, e⟩ := e; exact K v h' e)
theorem xr_V4i {b : Nat} {fs : List Value} {a1 a2 a3 a4 : Value} {P : Int32 → xm_H → Prop} (hd : decode (xt_code y) pc = .ok (.invokevirtual i, 3)) (hm : xm_okV (xt_own y) i z) (hb : h.1 b = some (.inl (xt_own z, fs))) (hn : xt_np z = 4) (c1 : a1.category = 1) (c2 : a2.category = 1) (c3 : a3.category = 1) (c4 : a4.category = 1) (hr : (rest.map fun v => v.category).sum ≤ 8) (hdd : d' < d)
    (Cz : xm_S g d' z (xm_entry z [.ref b, a1, a2, a3, a4]) h (xq_i P)) (K : ∀ (v : Int32) (h' : xm_H), P v h' → xm_S g d y (pc + 3, ls, .int v :: rest) h' Q) : xm_S g d y (pc, ls, a4 :: a3 :: a2 :: a1 :: .ref b :: rest) h Q := by
  cases d with
  | zero => exact absurd hdd (Nat.not_lt_zero _)
  | succ d => exact xr_callV (as := [a1, a2, a3, a4]) (rest := rest) hd hm rfl hb hn.symm (fun v hv => by simp at hv; rcases hv with rfl | rfl | rfl | rfl <;> assumption) hr (Cz.up (Nat.le_of_lt_succ hdd)) (fun r h' e => by obtain ⟨v, rfl, e⟩ := e; exact K v h' e)
theorem xr_V4v {b : Nat} {fs : List Value} {a1 a2 a3 a4 : Value} {P : xm_H → Prop} (hd : decode (xt_code y) pc = .ok (.invokevirtual i, 3)) (hm : xm_okV (xt_own y) i z) (hb : h.1 b = some (.inl (xt_own z, fs))) (hn : xt_np z = 4) (c1 : a1.category = 1) (c2 : a2.category = 1) (c3 : a3.category = 1) (c4 : a4.category = 1) (hr : (rest.map fun v => v.category).sum ≤ 8) (hdd : d' < d)
    (Cz : xm_S g d' z (xm_entry z [.ref b, a1, a2, a3, a4]) h (xq_v P)) (K : ∀ h' : xm_H, P h' → xm_S g d y (pc + 3, ls, rest) h' Q) : xm_S g d y (pc, ls, a4 :: a3 :: a2 :: a1 :: .ref b :: rest) h Q := by
  cases d with
  | zero => exact absurd hdd (Nat.not_lt_zero _)
  | succ d => exact xr_callV (as := [a1, a2, a3, a4]) (rest := rest) hd hm rfl hb hn.symm (fun v hv => by simp at hv; rcases hv with rfl | rfl | rfl | rfl <;> assumption) hr (Cz.up (Nat.le_of_lt_succ hdd)) (fun r h' e => by obtain ⟨rfl, e⟩ := e; exact K h' e)
theorem xr_V4r {b : Nat} {fs : List Value} {a1 a2 a3 a4 : Value} {P : Option Nat → xm_H → Prop} (hd : decode (xt_code y) pc = .ok (.invokevirtual i, 3)) (hm : xm_okV (xt_own y) i z) (hb : h.1 b = some (.inl (xt_own z, fs))) (hn : xt_np z = 4) (c1 : a1.category = 1) (c2 : a2.category = 1) (c3 : a3.category = 1) (c4 : a4.category = 1) (hr : (rest.map fun v => v.category).sum ≤ 8) (hdd : d' < d)
    (Cz : xm_S g d' z (xm_entry z [.ref b, a1, a2, a3, a4]) h (xq_r P)) (K : ∀ (v : Option Nat) (h' : xm_H), P v h' → xm_S g d y (pc + 3, ls, va_rf v :: rest) h' Q) : xm_S g d y (pc, ls, a4 :: a3 :: a2 :: a1 :: .ref b :: rest) h Q := by
  cases d with
  | zero => exact absurd hdd (Nat.not_lt_zero _)
  | succ d => exact xr_callV (as := [a1, a2, a3, a4]) (rest := rest) hd hm rfl hb hn.symm (fun v hv => by simp at hv; rcases hv with rfl | rfl | rfl | rfl <;> assumption) hr (Cz.up (Nat.le_of_lt_succ hdd)) (fun r h' e => by obtain ⟨v, rfl, e⟩ := e; exact K v h' e)
theorem xr_V5i {b : Nat} {fs : List Value} {a1 a2 a3 a4 a5 : Value} {P : Int32 → xm_H → Prop} (hd : decode (xt_code y) pc = .ok (.invokevirtual i, 3)) (hm : xm_okV (xt_own y) i z) (hb : h.1 b = some (.inl (xt_own z, fs))) (hn : xt_np z = 5) (c1 : a1.category = 1) (c2 : a2.category = 1) (c3 : a3.category = 1) (c4 : a4.category = 1) (c5 : a5.category = 1) (hr : (rest.map fun v => v.category).sum ≤ 8) (hdd : d' < d)
    (Cz : xm_S g d' z (xm_entry z [.ref b, a1, a2, a3, a4, a5]) h (xq_i P)) (K : ∀ (v : Int32) (h' : xm_H), P v h' → xm_S g d y (pc + 3, ls, .int v :: rest) h' Q) : xm_S g d y (pc, ls, a5 :: a4 :: a3 :: a2 :: a1 :: .ref b :: rest) h Q := by
  cases d with
  | zero => exact absurd hdd (Nat.not_lt_zero _)
  | succ d => exact xr_callV (as := [a1, a2, a3, a4, a5]) (rest := rest) hd hm rfl hb hn.symm (fun v hv => by simp at hv; rcases hv with rfl | rfl | rfl | rfl | rfl <;> assumption) hr (Cz.up (Nat.le_of_lt_succ hdd)) (fun r h' e => by obtain ⟨v, rfl, e⟩ := e; exact K v h' e)
theorem xr_V5v {b : Nat} {fs : List Value} {a1 a2 a3 a4 a5 : Value} {P : xm_H → Prop} (hd : decode (xt_code y) pc = .ok (.invokevirtual i, 3)) (hm : xm_okV (xt_own y) i z) (hb : h.1 b = some (.inl (xt_own z, fs))) (hn : xt_np z = 5) (c1 : a1.category = 1) (c2 : a2.category = 1) (c3 : a3.category = 1) (c4 : a4.category = 1) (c5 : a5.category = 1) (hr : (rest.map fun v => v.category).sum ≤ 8) (hdd : d' < d)
    (Cz : xm_S g d' z (xm_entry z [.ref b, a1, a2, a3, a4, a5]) h (xq_v P)) (K : ∀ h' : xm_H, P h' → xm_S g d y (pc + 3, ls, rest) h' Q) : xm_S g d y (pc, ls, a5 :: a4 :: a3 :: a2 :: a1 :: .ref b :: rest) h Q := by
  cases d with
  | zero => exact absurd hdd (Nat.not_lt_zero _)
  | succ d => exact xr_callV (as := [a1, a2, a3, a4, a5]) (rest := rest) hd hm rfl hb hn.symm (fun v hv => by simp at hv; rcases hv with rfl | rfl | rfl | rfl | rfl <;> assumption) hr (Cz.up (Nat.le_of_lt_succ hdd)) (fun r h' e => by obtain ⟨rfl, e⟩ := e; exact K h' e)
theorem xr_V5r {b : Nat} {fs : List Value} {a1 a2 a3 a4 a5 : Value} {P : Option Nat → xm_H → Prop} (hd : decode (xt_code y) pc = .ok (.invokevirtual i, 3)) (hm : xm_okV (xt_own y) i z) (hb : h.1 b = some (.inl (xt_own z, fs))) (hn : xt_np z = 5) (c1 : a1.category = 1) (c2 : a2.category = 1) (c3 : a3.category = 1) (c4 : a4.category = 1) (c5 : a5.category = 1) (hr : (rest.map fun v => v.category).sum ≤ 8) (hdd : d' < d)
    (Cz : xm_S g d' z (xm_entry z [.ref b, a1, a2, a3, a4, a5]) h (xq_r P)) (K : ∀ (v : Option Nat) (h' : xm_H), P v h' → xm_S g d y (pc + 3, ls, va_rf v :: rest) h' Q) : xm_S g d y (pc, ls, a5 :: a4 :: a3 :: a2 :: a1 :: .ref b :: rest) h Q := by
  cases d with
  | zero => exact absurd hdd (Nat.not_lt_zero _)
  | succ d => exact xr_callV (as := [a1, a2, a3, a4, a5]) (rest := rest) hd hm rfl hb hn.symm (fun v hv => by simp at hv; rcases hv with rfl | rfl | rfl | rfl | rfl <;> assumption) hr (Cz.up (Nat.le_of_lt_succ hdd)) (fun r h' e => by obtain ⟨v, rfl, e⟩ := e; exact K v h' e)
theorem xr_V6i {b : Nat} {fs : List Value} {a1 a2 a3 a4 a5 a6 : Value} {P : Int32 → xm_H → Prop} (hd : decode (xt_code y) pc = .ok (.invokevirtual i, 3)) (hm : xm_okV (xt_own y) i z) (hb : h.1 b = some (.inl (xt_own z, fs))) (hn : xt_np z = 6) (c1 : a1.category = 1) (c2 : a2.category = 1) (c3 : a3.category = 1) (c4 : a4.category = 1) (c5 : a5.category = 1) (c6 : a6.category = 1) (hr : (rest.map fun v => v.category).sum ≤ 8) (hdd : d' < d)
    (Cz : xm_S g d' z (xm_entry z [.ref b, a1, a2, a3, a4, a5, a6]) h (xq_i P)) (K : ∀ (v : Int32) (h' : xm_H), P v h' → xm_S g d y (pc + 3, ls, .int v :: rest) h' Q) : xm_S g d y (pc, ls, a6 :: a5 :: a4 :: a3 :: a2 :: a1 :: .ref b :: rest) h Q := by
  cases d with
  | zero => exact absurd hdd (Nat.not_lt_zero _)
  | succ d => exact xr_callV (as := [a1, a2, a3, a4, a5, a6]) (rest := rest) hd hm rfl hb hn.symm (fun v hv => by simp at hv; rcases hv with rfl | rfl | rfl | rfl | rfl | rfl <;> assumption) hr (Cz.up (Nat.le_of_lt_succ hdd)) (fun r h' e => by obtain ⟨v, rfl, e⟩ := e; exact K v h' e)
theorem xr_V6v {b : Nat} {fs : List Value} {a1 a2 a3 a4 a5 a6 : Value} {P : xm_H → Prop} (hd : decode (xt_code y) pc = .ok (.invokevirtual i, 3)) (hm : xm_okV (xt_own y) i z) (hb : h.1 b = some (.inl (xt_own z, fs))) (hn : xt_np z = 6) (c1 : a1.category = 1) (c2 : a2.category = 1) (c3 : a3.category = 1) (c4 : a4.category = 1) (c5 : a5.category = 1) (c6 : a6.category = 1) (hr : (rest.map fun v => v.category).sum ≤ 8) (hdd : d' < d)
    (Cz : xm_S g d' z (xm_entry z [.ref b, a1, a2, a3, a4, a5, a6]) h (xq_v P)) (K : ∀ h' : xm_H, P h' → xm_S g d y (pc + 3, ls, rest) h' Q) : xm_S g d y (pc, ls, a6 :: a5 :: a4 :: a3 :: a2 :: a1 :: .ref b :: rest) h Q := by
  cases d with
  | zero => exact absurd hdd (Nat.not_lt_zero _)
  | succ d => exact xr_callV (as := [a1, a2, a3, a4, a5, a6]) (rest := rest) hd hm rfl hb hn.symm (fun v hv => by simp at hv; rcases hv with rfl | rfl | rfl | rfl | rfl | rfl <;> assumption) hr (Cz.up (Nat.le_of_lt_succ hdd)) (fun r h' e => by obtain ⟨rfl, e⟩ := e; exact K h' e)
theorem xr_V6r {b : Nat} {fs : List Value} {a1 a2 a3 a4 a5 a6 : Value} {P : Option Nat → xm_H → Prop} (hd : decode (xt_code y) pc = .ok (.invokevirtual i, 3)) (hm : xm_okV (xt_own y) i z) (hb : h.1 b = some (.inl (xt_own z, fs))) (hn : xt_np z = 6) (c1 : a1.category = 1) (c2 : a2.category = 1) (c3 : a3.category = 1) (c4 : a4.category = 1) (c5 : a5.category = 1) (c6 : a6.category = 1) (hr : (rest.map fun v => v.category).sum ≤ 8) (hdd : d' < d)
    (Cz : xm_S g d' z (xm_entry z [.ref b, a1, a2, a3, a4, a5, a6]) h (xq_r P)) (K : ∀ (v : Option Nat) (h' : xm_H), P v h' → xm_S g d y (pc + 3, ls, va_rf v :: rest) h' Q) : xm_S g d y (pc, ls, a6 :: a5 :: a4 :: a3 :: a2 :: a1 :: .ref b :: rest) h Q := by
  cases d with
  | zero => exact absurd hdd (Nat.not_lt_zero _)
  | succ d => exact xr_callV (as := [a1, a2, a3, a4, a5, a6]) (rest := rest) hd hm rfl hb hn.symm (fun v hv => by simp at hv; rcases hv with rfl | rfl | rfl | rfl | rfl | rfl <;> assumption) hr (Cz.up (Nat.le_of_lt_succ hdd)) (fun r h' e => by obtain ⟨v, rfl, e⟩ := e; exact K v h' e)
theorem xr_S0i {P : Int32 → xm_H → Prop} (hd : decode (xt_code y) pc = .ok (.invokestatic i, 3)) (hm : xm_okS (xt_own y) i z) (hn : xt_np z = 0) (hr : (rest.map fun v => v.category).sum ≤ 8) (hdd : d' < d)
    (Cz : xm_S g d' z (xm_entry z []) h (xq_i P)) (K : ∀ (v : Int32) (h' : xm_H), P v h' → xm_S g d y (pc + 3, ls, .int v :: rest) h' Q) : xm_S g d y (pc, ls, rest) h Q := by
  cases d with
  | zero => exact absurd hdd (Nat.not_lt_zero _)
  | succ d => exact xr_callS (as := []) (rest := rest) hd hm rfl hn.symm (fun v hv => by simp at hv) hr (Cz.up (Nat.le_of_lt_succ hdd)) (fun r h' e => by obtain ⟨v, rfl, e⟩ := e; exact K v h' e)
theorem xr_S0v {P : xm_H → Prop} (hd : decode (xt_code y) pc = .ok (.invokestatic i, 3)) (hm : xm_okS (xt_own y) i z) (hn : xt_np z = 0) (hr : (rest.map fun v => v.category).sum ≤ 8) (hdd : d' < d)
    (Cz : xm_S g d' z (xm_entry z []) h (xq_v P)) (K : ∀ h' : xm_H, P h' → xm_S g d y (pc + 3, ls, rest) h' Q) : xm_S g d y (pc, ls, rest) h Q := by
  cases d with
  | zero => exact absurd hdd (Nat.not_lt_zero _)
  | succ d => exact xr_callS (as := []) (rest := rest) hd hm rfl hn.symm (fun v hv => by simp at hv) hr (Cz.up (Nat.le_of_lt_succ hdd)) (fun r h' e => by obtain ⟨rfl, e⟩ := e; exact K h' e)
theorem xr_S0r {P : Option Nat → xm_H → Prop} (hd : decode (xt_code y) pc = .ok (.invokestatic i, 3)) (hm : xm_okS (xt_own y) i z) (hn : xt_np z = 0) (hr : (rest.map fun v => v.category).sum ≤ 8) (hdd : d' < d)
    (Cz : xm_S g d' z (xm_entry z []) h (xq_r P)) (K : ∀ (v : Option Nat) (h' : xm_H), P v h' → xm_S g d y (pc + 3, ls, va_rf v :: rest) h' Q) : xm_S g d y (pc, ls, rest) h Q := by
  cases d with
  | zero => exact absurd hdd (Nat.not_lt_zero _)
  | succ d => exact xr_callS (as := []) (rest := rest) hd hm rfl hn.symm (fun v hv => by simp at hv) hr (Cz.up (Nat.le_of_lt_succ hdd)) (fun r h' e => by obtain ⟨v, rfl, e⟩ := e; exact K v h' e)
theorem xr_S1i {a1 : Value} {P : Int32 → xm_H → Prop} (hd : decode (xt_code y) pc = .ok (.invokestatic i, 3)) (hm : xm_okS (xt_own y) i z) (hn : xt_np z = 1) (c1 : a1.category = 1) (hr : (rest.map fun v => v.category).sum ≤ 8) (hdd : d' < d)
    (Cz : xm_S g d' z (xm_entry z [a1]) h (xq_i P)) (K : ∀ (v : Int32) (h' : xm_H), P v h' → xm_S g d y (pc + 3, ls, .int v :: rest) h' Q) : xm_S g d y (pc, ls, a1 :: rest) h Q := by
  cases d with
  | zero => exact absurd hdd (Nat.not_lt_zero _)
  | succ d => exact xr_callS (as := [a1]) (rest := rest) hd hm rfl hn.symm (fun v hv => by simp at hv; rcases hv with rfl <;> assumption) hr (Cz.up (Nat.le_of_lt_succ hdd)) (fun r h' e => by obtain ⟨v, rfl, e⟩ := e; exact K v h' e)
theorem xr_S1v {a1 : Value} {P : xm_H → Prop} (hd : decode (xt_code y) pc = .ok (.invokestatic i, 3)) (hm : xm_okS (xt_own y) i z) (hn : xt_np z = 1) (c1 : a1.category = 1) (hr : (rest.map fun v => v.category).sum ≤ 8) (hdd : d' < d)
    (Cz : xm_S g d' z (xm_entry z [a1]) h (xq_v P)) (K : ∀ h' : xm_H, P h' → xm_S g d y (pc + 3, ls, rest) h' Q) : xm_S g d y (pc, ls, a1 :: rest) h Q := by
  cases d with
  | zero => exact absurd hdd (Nat.not_lt_zero _)
  | succ d => exact xr_callS (as := [a1]) (rest := rest) hd hm rfl hn.symm (fun v hv => by simp at hv; rcases hv with rfl <;> assumption) hr (Cz.up (Nat.le_of_lt_succ hdd)) (fun r h' e => by obtain ⟨rfl, e⟩ := e; exact K h' e)
theorem xr_S1r {a1 : Value} {P : Option Nat → xm_H → Prop} (hd : decode (xt_code y) pc = .ok (.invokestatic i, 3)) (hm : xm_okS (xt_own y) i z) (hn : xt_np z = 1) (c1 : a1.category = 1) (hr : (rest.map fun v => v.category).sum ≤ 8) (hdd : d' < d)
    (Cz : xm_S g d' z (xm_entry z [a1]) h (xq_r P)) (K : ∀ (v : Option Nat) (h' : xm_H), P v h' → xm_S g d y (pc + 3, ls, va_rf v :: rest) h' Q) : xm_S g d y (pc, ls, a1 :: rest) h Q := by
  cases d with
  | zero => exact absurd hdd (Nat.not_lt_zero _)
  | succ d => exact xr_callS (as := [a1]) (rest := rest) hd hm rfl hn.symm (fun v hv => by simp at hv; rcases hv with rfl <;> assumption) hr (Cz.up (Nat.le_of_lt_succ hdd)) (fun r h' e => by obtain ⟨v, rfl, e⟩ := e; exact K v h' e)
theorem xr_S2i {a1 a2 : Value} {P : Int32 → xm_H → Prop} (hd : decode (xt_code y) pc = .ok (.invokestatic i, 3)) (hm : xm_okS (xt_own y) i z) (hn : xt_np z = 2) (c1 : a1.category = 1) (c2 : a2.category = 1) (hr : (rest.map fun v => v.category).sum ≤ 8) (hdd : d' < d)
    (Cz : xm_S g d' z (xm_entry z [a1, a2]) h (xq_i P)) (K : ∀ (v : Int32) (h' : xm_H), P v h' → xm_S g d y (pc + 3, ls, .int v :: rest) h' Q) : xm_S g d y (pc, ls, a2 :: a1 :: rest) h Q := by
  cases d with
  | zero => exact absurd hdd (Nat.not_lt_zero _)
  | succ d => exact xr_callS (as := [a1, a2]) (rest := rest) hd hm rfl hn.symm (fun v hv => by simp at hv; rcases hv with rfl | rfl <;> assumption) hr (Cz.up (Nat.le_of_lt_succ hdd)) (fun r h' e => by obtain ⟨v, rfl, e⟩ := e; exact K v h' e)
theorem xr_S2v {a1 a2 : Value} {P : xm_H → Prop} (hd : decode (xt_code y) pc = .ok (.invokestatic i, 3)) (hm : xm_okS (xt_own y) i z) (hn : xt_np z = 2) (c1 : a1.category = 1) (c2 : a2.category = 1) (hr : (rest.map fun v => v.category).sum ≤ 8) (hdd : d' < d)
    (Cz : xm_S g d' z (xm_entry z [a1, a2]) h (xq_v P)) (K : ∀ h' : xm_H, P h' → xm_S g d y (pc + 3, ls, rest) h' Q) : xm_S g d y (pc, ls, a2 :: a1 :: rest) h Q := by
  cases d with
  | zero => exact absurd hdd (Nat.not_lt_zero _)
  | succ d => exact xr_callS (as := [a1, a2]) (rest := rest) hd hm rfl hn.symm (fun v hv => by simp at hv; rcases hv with rfl | rfl <;> assumption) hr (Cz.up (Nat.le_of_lt_succ hdd)) (fun r h' e => by obtain ⟨rfl, e⟩ := e; exact K h' e)
theorem xr_S2r {a1 a2 : Value} {P : Option Nat → xm_H → Prop} (hd : decode (xt_code y) pc = .ok (.invokestatic i, 3)) (hm : xm_okS (xt_own y) i z) (hn : xt_np z = 2) (c1 : a1.category = 1) (c2 : a2.category = 1) (hr : (rest.map fun v => v.category).sum ≤ 8) (hdd : d' < d)
    (Cz : xm_S g d' z (xm_entry z [a1, a2]) h (xq_r P)) (K : ∀ (v : Option Nat) (h' : xm_H), P v h' → xm_S g d y (pc + 3, ls, va_rf v :: rest) h' Q) : xm_S g d y (pc, ls, a2 :: a1 :: rest) h Q := by
  cases d with
  | zero => exact absurd hdd (Nat.not_lt_zero _)
  | succ d => exact xr_callS (as := [a1, a2]) (rest := rest) hd hm rfl hn.symm (fun v hv => by simp at hv; rcases hv with rfl | rfl <;> assumption) hr (Cz.up (Nat.le_of_lt_succ hdd)) (fun r h' e => by obtain ⟨v, rfl, e⟩ := e; exact K v h' e)
theorem xr_S3i {a1 a2 a3 : Value} {P : Int32 → xm_H → Prop} (hd : decode (xt_code y) pc = .ok (.invokestatic i, 3)) (hm : xm_okS (xt_own y) i z) (hn : xt_np z = 3) (c1 : a1.category = 1) (c2 : a2.category = 1) (c3 : a3.category = 1) (hr : (rest.map fun v => v.category).sum ≤ 8) (hdd : d' < d)
    (Cz : xm_S g d' z (xm_entry z [a1, a2, a3]) h (xq_i P)) (K : ∀ (v : Int32) (h' : xm_H), P v h' → xm_S g d y (pc + 3, ls, .int v :: rest) h' Q) : xm_S g d y (pc, ls, a3 :: a2 :: a1 :: rest) h Q := by
  cases d with
  | zero => exact absurd hdd (Nat.not_lt_zero _)
  | succ d => exact xr_callS (as := [a1, a2, a3]) (rest := rest) hd hm rfl hn.symm (fun v hv => by simp at hv; rcases hv with rfl | rfl | rfl <;> assumption) hr (Cz.up (Nat.le_of_lt_succ hdd)) (fun r h' e => by obtain ⟨v, rfl, e⟩ := e; exact K v h' e)
theorem xr_S3v {a1 a2 a3 : Value} {P : xm_H → Prop} (hd : decode (xt_code y) pc = .ok (.invokestatic i, 3)) (hm : xm_okS (xt_own y) i z) (hn : xt_np z = 3) (c1 : a1.category = 1) (c2 : a2.category = 1) (c3 : a3.category = 1) (hr : (rest.map fun v => v.category).sum ≤ 8) (hdd : d' < d)
    (Cz : xm_S g d' z (xm_entry z [a1, a2, a3]) h (xq_v P)) (K : ∀ h' : xm_H, P h' → xm_S g d y (pc + 3, ls, rest) h' Q) : xm_S g d y (pc, ls, a3 :: a2 :: a1 :: rest) h Q := by
  cases d with
  | zero => exact absurd hdd (Nat.not_lt_zero _)
  | succ d => exact xr_callS (as := [a1, a2, a3]) (rest := rest) hd hm rfl hn.symm (fun v hv => by simp at hv; rcases hv with rfl | rfl | rfl <;> assumption) hr (Cz.up (Nat.le_of_lt_succ hdd)) (fun r h' e => by obtain ⟨rfl, e⟩ := e; exact K h' e)
theorem xr_S3r {a1 a2 a3 : Value} {P : Option Nat → xm_H → Prop} (hd : decode (xt_code y) pc = .ok (.invokestatic i, 3)) (hm : xm_okS (xt_own y) i z) (hn : xt_np z = 3) (c1 : a1.category = 1) (c2 : a2.category = 1) (c3 : a3.category = 1) (hr : (rest.map fun v => v.category).sum ≤ 8) (hdd : d' < d)
    (Cz : xm_S g d' z (xm_entry z [a1, a2, a3]) h (xq_r P)) (K : ∀ (v : Option Nat) (h' : xm_H), P v h' → xm_S g d y (pc + 3, ls, va_rf v :: rest) h' Q) : xm_S g d y (pc, ls, a3 :: a2 :: a1 :: rest) h Q := by
  cases d with
  | zero => exact absurd hdd (Nat.not_lt_zero _)
  | succ d => exact xr_callS (as := [a1, a2, a3]) (rest := rest) hd hm rfl hn.symm (fun v hv => by simp at hv; rcases hv with rfl | rfl | rfl <;> assumption) hr (Cz.up (Nat.le_of_lt_succ hdd)) (fun r h' e => by obtain ⟨v, rfl, e⟩ := e; exact K v h' e)
theorem xr_S4i {a1 a2 a3 a4 : Value} {P : Int32 → xm_H → Prop} (hd : decode (xt_code y) pc = .ok (.invokestatic i, 3)) (hm : xm_okS (xt_own y) i z) (hn : xt_np z = 4) (c1 : a1.category = 1) (c2 : a2.category = 1) (c3 : a3.category = 1) (c4 : a4.category = 1) (hr : (rest.map fun v => v.category).sum ≤ 8) (hdd : d' < d)
    (Cz : xm_S g d' z (xm_entry z [a1, a2, a3, a4]) h (xq_i P)) (K : ∀ (v : Int32) (h' : xm_H), P v h' → xm_S g d y (pc + 3, ls, .int v :: rest) h' Q) : xm_S g d y (pc, ls, a4 :: a3 :: a2 :: a1 :: rest) h Q := by
  cases d with
  | zero => exact absurd hdd (Nat.not_lt_zero _)
  | succ d => exact xr_callS (as := [a1, a2, a3, a4]) (rest := rest) hd hm rfl hn.symm (fun v hv => by simp at hv; rcases hv with rfl | rfl | rfl | rfl <;> assumption) hr (Cz.up (Nat.le_of_lt_succ hdd)) (fun r h' e => by obtain ⟨v, rfl, e⟩ := e; exact K v h' e)
theorem xr_S4v {a1 a2 a3 a4 : Value} {P : xm_H → Prop} (hd : decode (xt_code y) pc = .ok (.invokestatic i, 3)) (hm : xm_okS (xt_own y) i z) (hn : xt_np z = 4) (c1 : a1.category = 1) (c2 : a2.category = 1) (c3 : a3.category = 1) (c4 : a4.category = 1) (hr : (rest.map fun v => v.category).sum ≤ 8) (hdd : d' < d)
    (Cz : xm_S g d' z (xm_entry z [a1, a2, a3, a4]) h (xq_v P)) (K : ∀ h' : xm_H, P h' → xm_S g d y (pc + 3, ls, rest) h' Q) : xm_S g d y (pc, ls, a4 :: a3 :: a2 :: a1 :: rest) h Q := by
  cases d with
  | zero => exact absurd hdd (Nat.not_lt_zero _)
  | succ d => exact xr_callS (as := [a1, a2, a3, a4]) (rest := rest) hd hm rfl hn.symm (fun v hv => by simp at hv; rcases hv with rfl | rfl | rfl | rfl <;> assumption) hr (Cz.up (Nat.le_of_lt_succ hdd)) (fun r h' e => by obtain ⟨rfl, e⟩ := e; exact K h' e)
theorem xr_S4r {a1 a2 a3 a4 : Value} {P : Option Nat → xm_H → Prop} (hd : decode (xt_code y) pc = .ok (.invokestatic i, 3)) (hm : xm_okS (xt_own y) i z) (hn : xt_np z = 4) (c1 : a1.category = 1) (c2 : a2.category = 1) (c3 : a3.category = 1) (c4 : a4.category = 1) (hr : (rest.map fun v => v.category).sum ≤ 8) (hdd : d' < d)
    (Cz : xm_S g d' z (xm_entry z [a1, a2, a3, a4]) h (xq_r P)) (K : ∀ (v : Option Nat) (h' : xm_H), P v h' → xm_S g d y (pc + 3, ls, va_rf v :: rest) h' Q) : xm_S g d y (pc, ls, a4 :: a3 :: a2 :: a1 :: rest) h Q := by
  cases d with
  | zero => exact absurd hdd (Nat.not_lt_zero _)
  | succ d => exact xr_callS (as := [a1, a2, a3, a4]) (rest := rest) hd hm rfl hn.symm (fun v hv => by simp at hv; rcases hv with rfl | rfl | rfl | rfl <;> assumption) hr (Cz.up (Nat.le_of_lt_succ hdd)) (fun r h' e => by obtain ⟨v, rfl, e⟩ := e; exact K v h' e)
theorem xr_S5i {a1 a2 a3 a4 a5 : Value} {P : Int32 → xm_H → Prop} (hd : decode (xt_code y) pc = .ok (.invokestatic i, 3)) (hm : xm_okS (xt_own y) i z) (hn : xt_np z = 5) (c1 : a1.category = 1) (c2 : a2.category = 1) (c3 : a3.category = 1) (c4 : a4.category = 1) (c5 : a5.category = 1) (hr : (rest.map fun v => v.category).sum ≤ 8) (hdd : d' < d)
    (Cz : xm_S g d' z (xm_entry z [a1, a2, a3, a4, a5]) h (xq_i P)) (K : ∀ (v : Int32) (h' : xm_H), P v h' → xm_S g d y (pc + 3, ls, .int v :: rest) h' Q) : xm_S g d y (pc, ls, a5 :: a4 :: a3 :: a2 :: a1 :: rest) h Q := by
  cases d with
  | zero => exact absurd hdd (Nat.not_lt_zero _)
  | succ d => exact xr_callS (as := [a1, a2, a3, a4, a5]) (rest := rest) hd hm rfl hn.symm (fun v hv => by simp at hv; rcases hv with rfl | rfl | rfl | rfl | rfl <;> assumption) hr (Cz.up (Nat.le_of_lt_succ hdd)) (fun r h' e => by obtain ⟨v, rfl, e⟩ := e; exact K v h' e)
theorem xr_S5v {a1 a2 a3 a4 a5 : Value} {P : xm_H → Prop} (hd : decode (xt_code y) pc = .ok (.invokestatic i, 3)) (hm : xm_okS (xt_own y) i z) (hn : xt_np z = 5) (c1 : a1.category = 1) (c2 : a2.category = 1) (c3 : a3.category = 1) (c4 : a4.category = 1) (c5 : a5.category = 1) (hr : (rest.map fun v => v.category).sum ≤ 8) (hdd : d' < d)
    (Cz : xm_S g d' z (xm_entry z [a1, a2, a3, a4, a5]) h (xq_v P)) (K : ∀ h' : xm_H, P h' → xm_S g d y (pc + 3, ls, rest) h' Q) : xm_S g d y (pc, ls, a5 :: a4 :: a3 :: a2 :: a1 :: rest) h Q := by
  cases d with
  | zero => exact absurd hdd (Nat.not_lt_zero _)
  | succ d => exact xr_callS (as := [a1, a2, a3, a4, a5]) (rest := rest) hd hm rfl hn.symm (fun v hv => by simp at hv; rcases hv with rfl | rfl | rfl | rfl | rfl <;> assumption) hr (Cz.up (Nat.le_of_lt_succ hdd)) (fun r h' e => by obtain ⟨rfl, e⟩ := e; exact K h' e)
theorem xr_S5r {a1 a2 a3 a4 a5 : Value} {P : Option Nat → xm_H → Prop} (hd : decode (xt_code y) pc = .ok (.invokestatic i, 3)) (hm : xm_okS (xt_own y) i z) (hn : xt_np z = 5) (c1 : a1.category = 1) (c2 : a2.category = 1) (c3 : a3.category = 1) (c4 : a4.category = 1) (c5 : a5.category = 1) (hr : (rest.map fun v => v.category).sum ≤ 8) (hdd : d' < d)
    (Cz : xm_S g d' z (xm_entry z [a1, a2, a3, a4, a5]) h (xq_r P)) (K : ∀ (v : Option Nat) (h' : xm_H), P v h' → xm_S g d y (pc + 3, ls, va_rf v :: rest) h' Q) : xm_S g d y (pc, ls, a5 :: a4 :: a3 :: a2 :: a1 :: rest) h Q := by
  cases d with
  | zero => exact absurd hdd (Nat.not_lt_zero _)
  | succ d => exact xr_callS (as := [a1, a2, a3, a4, a5]) (rest := rest) hd hm rfl hn.symm (fun v hv => by simp at hv; rcases hv with rfl | rfl | rfl | rfl | rfl <;> assumption) hr (Cz.up (Nat.le_of_lt_succ hdd)) (fun r h' e => by obtain ⟨v, rfl, e⟩ := e; exact K v h' e)
theorem xr_S6i {a1 a2 a3 a4 a5 a6 : Value} {P : Int32 → xm_H → Prop} (hd : decode (xt_code y) pc = .ok (.invokestatic i, 3)) (hm : xm_okS (xt_own y) i z) (hn : xt_np z = 6) (c1 : a1.category = 1) (c2 : a2.category = 1) (c3 : a3.category = 1) (c4 : a4.category = 1) (c5 : a5.category = 1) (c6 : a6.category = 1) (hr : (rest.map fun v => v.category).sum ≤ 8) (hdd : d' < d)
    (Cz : xm_S g d' z (xm_entry z [a1, a2, a3, a4, a5, a6]) h (xq_i P)) (K : ∀ (v : Int32) (h' : xm_H), P v h' → xm_S g d y (pc + 3, ls, .int v :: rest) h' Q) : xm_S g d y (pc, ls, a6 :: a5 :: a4 :: a3 :: a2 :: a1 :: rest) h Q := by
  cases d with
  | zero => exact absurd hdd (Nat.not_lt_zero _)
  | succ d => exact xr_callS (as := [a1, a2, a3, a4, a5, a6]) (rest := rest) hd hm rfl hn.symm (fun v hv => by simp at hv; rcases hv with rfl | rfl | rfl | rfl | rfl | rfl <;> assumption) hr (Cz.up (Nat.le_of_lt_succ hdd)) (fun r h' e => by obtain ⟨v, rfl, e⟩ := e; exact K v h' e)
theorem xr_S6v {a1 a2 a3 a4 a5 a6 : Value} {P : xm_H → Prop} (hd : decode (xt_code y) pc = .ok (.invokestatic i, 3)) (hm : xm_okS (xt_own y) i z) (hn : xt_np z = 6) (c1 : a1.category = 1) (c2 : a2.category = 1) (c3 : a3.category = 1) (c4 : a4.category = 1) (c5 : a5.category = 1) (c6 : a6.category = 1) (hr : (rest.map fun v => v.category).sum ≤ 8) (hdd : d' < d)
    (Cz : xm_S g d' z (xm_entry z [a1, a2, a3, a4, a5, a6]) h (xq_v P)) (K : ∀ h' : xm_H, P h' → xm_S g d y (pc + 3, ls, rest) h' Q) : xm_S g d y (pc, ls, a6 :: a5 :: a4 :: a3 :: a2 :: a1 :: rest) h Q := by
  cases d with
  | zero => exact absurd hdd (Nat.not_lt_zero _)
  | succ d => exact xr_callS (as := [a1, a2, a3, a4, a5, a6]) (rest := rest) hd hm rfl hn.symm (fun v hv => by simp at hv; rcases hv with rfl | rfl | rfl | rfl | rfl | rfl <;> assumption) hr (Cz.up (Nat.le_of_lt_succ hdd)) (fun r h' e => by obtain ⟨rfl, e⟩ := e; exact K h' e)
theorem xr_S6r {a1 a2 a3 a4 a5 a6 : Value} {P : Option Nat → xm_H → Prop} (hd : decode (xt_code y) pc = .ok (.invokestatic i, 3)) (hm : xm_okS (xt_own y) i z) (hn : xt_np z = 6) (c1 : a1.category = 1) (c2 : a2.category = 1) (c3 : a3.category = 1) (c4 : a4.category = 1) (c5 : a5.category = 1) (c6 : a6.category = 1) (hr : (rest.map fun v => v.category).sum ≤ 8) (hdd : d' < d)
    (Cz : xm_S g d' z (xm_entry z [a1, a2, a3, a4, a5, a6]) h (xq_r P)) (K : ∀ (v : Option Nat) (h' : xm_H), P v h' → xm_S g d y (pc + 3, ls, va_rf v :: rest) h' Q) : xm_S g d y (pc, ls, a6 :: a5 :: a4 :: a3 :: a2 :: a1 :: rest) h Q := by
  cases d with
  | zero => exact absurd hdd (Nat.not_lt_zero _)
  | succ d => exact xr_callS (as := [a1, a2, a3, a4, a5, a6]) (rest := rest) hd hm rfl hn.symm (fun v hv => by simp at hv; rcases hv with rfl | rfl | rfl | rfl | rfl | rfl <;> assumption) hr (Cz.up (Nat.le_of_lt_succ hdd)) (fun r h' e => by obtain ⟨v, rfl, e⟩ := e; exact K v h' e)
theorem xr_I0v {b : Nat} {P : xm_H → Prop} (hd : decode (xt_code y) pc = .ok (.invokespecial i, 3)) (hm : xm_okI (xt_own y) i z) (hn : xt_np z = 0) (hr : (rest.map fun v => v.category).sum ≤ 8) (hdd : d' < d)
    (Cz : xm_S g d' z (xm_entry z [.ref b]) h (xq_v P)) (K : ∀ h' : xm_H, P h' → xm_S g d y (pc + 3, ls, rest) h' Q) : xm_S g d y (pc, ls, .ref b :: rest) h Q := by
  cases d with
  | zero => exact absurd hdd (Nat.not_lt_zero _)
  | succ d => exact xr_callI (as := []) (rest := rest) hd hm rfl hn.symm (fun v hv => by simp at hv) hr (Cz.up (Nat.le_of_lt_succ hdd)) (fun r h' e => by obtain ⟨rfl, e⟩ := e; exact K h' e)
theorem xr_I1v {b : Nat} {a1 : Value} {P : xm_H → Prop} (hd : decode (xt_code y) pc = .ok (.invokespecial i, 3)) (hm : xm_okI (xt_own y) i z) (hn : xt_np z = 1) (c1 : a1.category = 1) (hr : (rest.map fun v => v.category).sum ≤ 8) (hdd : d' < d)
    (Cz : xm_S g d' z (xm_entry z [.ref b, a1]) h (xq_v P)) (K : ∀ h' : xm_H, P h' → xm_S g d y (pc + 3, ls, rest) h' Q) : xm_S g d y (pc, ls, a1 :: .ref b :: rest) h Q := by
  cases d with
  | zero => exact absurd hdd (Nat.not_lt_zero _)
  | succ d => exact xr_callI (as := [a1]) (rest := rest) hd hm rfl hn.symm (fun v hv => by simp at hv; rcases hv with rfl <;> assumption) hr (Cz.up (Nat.le_of_lt_succ hdd)) (fun r h' e => by obtain ⟨rfl, e⟩ := e; exact K h' e)
theorem xr_I2v {b : Nat} {a1 a2 : Value} {P : xm_H → Prop} (hd : decode (xt_code y) pc = .ok (.invokespecial i, 3)) (hm : xm_okI (xt_own y) i z) (hn : xt_np z = 2) (c1 : a1.category = 1) (c2 : a2.category = 1) (hr : (rest.map fun v => v.category).sum ≤ 8) (hdd : d' < d)
    (Cz : xm_S g d' z (xm_entry z [.ref b, a1, a2]) h (xq_v P)) (K : ∀ h' : xm_H, P h' → xm_S g d y (pc + 3, ls, rest) h' Q) : xm_S g d y (pc, ls, a2 :: a1 :: .ref b :: rest) h Q := by
  cases d with
  | zero => exact absurd hdd (Nat.not_lt_zero _)
  | succ d => exact xr_callI (as := [a1, a2]) (rest := rest) hd hm rfl hn.symm (fun v hv => by simp at hv; rcases hv with rfl | rfl <;> assumption) hr (Cz.up (Nat.le_of_lt_succ hdd)) (fun r h' e => by obtain ⟨rfl, e⟩ := e; exact K h' e)
theorem xr_I3v {b : Nat} {a1 a2 a3 : Value} {P : xm_H → Prop} (hd : decode (xt_code y) pc = .ok (.invokespecial i, 3)) (hm : xm_okI (xt_own y) i z) (hn : xt_np z = 3) (c1 : a1.category = 1) (c2 : a2.category = 1) (c3 : a3.category = 1) (hr : (rest.map fun v => v.category).sum ≤ 8) (hdd : d' < d)
    (Cz : xm_S g d' z (xm_entry z [.ref b, a1, a2, a3]) h (xq_v P)) (K : ∀ h' : xm_H, P h' → xm_S g d y (pc + 3, ls, rest) h' Q) : xm_S g d y (pc, ls, a3 :: a2 :: a1 :: .ref b :: rest) h Q := by
  cases d with
  | zero => exact absurd hdd (Nat.not_lt_zero _)
  | succ d => exact xr_callI (as := [a1, a2, a3]) (rest := rest) hd hm rfl hn.symm (fun v hv => by simp at hv; rcases hv with rfl | rfl | rfl <;> assumption) hr (Cz.up (Nat.le_of_lt_succ hdd)) (fun r h' e => by obtain ⟨rfl, e⟩ := e; exact K h' e)
theorem xr_I4v {b : Nat} {a1 a2 a3 a4 : Value} {P : xm_H → Prop} (hd : decode (xt_code y) pc = .ok (.invokespecial i, 3)) (hm : xm_okI (xt_own y) i z) (hn : xt_np z = 4) (c1 : a1.category = 1) (c2 : a2.category = 1) (c3 : a3.category = 1) (c4 : a4.category = 1) (hr : (rest.map fun v => v.category).sum ≤ 8) (hdd : d' < d)
    (Cz : xm_S g d' z (xm_entry z [.ref b, a1, a2, a3, a4]) h (xq_v P)) (K : ∀ h' : xm_H, P h' → xm_S g d y (pc + 3, ls, rest) h' Q) : xm_S g d y (pc, ls, a4 :: a3 :: a2 :: a1 :: .ref b :: rest) h Q := by
  cases d with
  | zero => exact absurd hdd (Nat.not_lt_zero _)
  | succ d => exact xr_callI (as := [a1, a2, a3, a4]) (rest := rest) hd hm rfl hn.symm (fun v hv => by simp at hv; rcases hv with rfl | rfl | rfl | rfl <;> assumption) hr (Cz.up (Nat.le_of_lt_succ hdd)) (fun r h' e => by obtain ⟨rfl, e⟩ := e; exact K h' e)
theorem xr_I5v {b : Nat} {a1 a2 a3 a4 a5 : Value} {P : xm_H → Prop} (hd : decode (xt_code y) pc = .ok (.invokespecial i, 3)) (hm : xm_okI (xt_own y) i z) (hn : xt_np z = 5) (c1 : a1.category = 1) (c2 : a2.category = 1) (c3 : a3.category = 1) (c4 : a4.category = 1) (c5 : a5.category = 1) (hr : (rest.map fun v => v.category).sum ≤ 8) (hdd : d' < d)
    (Cz : xm_S g d' z (xm_entry z [.ref b, a1, a2, a3, a4, a5]) h (xq_v P)) (K : ∀ h' : xm_H, P h' → xm_S g d y (pc + 3, ls, rest) h' Q) : xm_S g d y (pc, ls, a5 :: a4 :: a3 :: a2 :: a1 :: .ref b :: rest) h Q := by
  cases d with
  | zero => exact absurd hdd (Nat.not_lt_zero _)
  | succ d => exact xr_callI (as := [a1, a2, a3, a4, a5]) (rest := rest) hd hm rfl hn.symm (fun v hv => by simp at hv; rcases hv with rfl | rfl | rfl | rfl | rfl <;> assumption) hr (Cz.up (Nat.le_of_lt_succ hdd)) (fun r h' e => by obtain ⟨rfl, e⟩ := e; exact K h' e)
theorem xr_I6v {b : Nat} {a1 a2 a3 a4 a5 a6 : Value} {P : xm_H → Prop} (hd : decode (xt_code y) pc = .ok (.invokespecial i, 3)) (hm : xm_okI (xt_own y) i z) (hn : xt_np z = 6) (c1 : a1.category = 1) (c2 : a2.category = 1) (c3 : a3.category = 1) (c4 : a4.category = 1) (c5 : a5.category = 1) (c6 : a6.category = 1) (hr : (rest.map fun v => v.category).sum ≤ 8) (hdd : d' < d)
    (Cz : xm_S g d' z (xm_entry z [.ref b, a1, a2, a3, a4, a5, a6]) h (xq_v P)) (K : ∀ h' : xm_H, P h' → xm_S g d y (pc + 3, ls, rest) h' Q) : xm_S g d y (pc, ls, a6 :: a5 :: a4 :: a3 :: a2 :: a1 :: .ref b :: rest) h Q := by
  cases d with
  | zero => exact absurd hdd (Nat.not_lt_zero _)
  | succ d => exact xr_callI (as := [a1, a2, a3, a4, a5, a6]) (rest := rest) hd hm rfl hn.symm (fun v hv => by simp at hv; rcases hv with rfl | rfl | rfl | rfl | rfl | rfl <;> assumption) hr (Cz.up (Nat.le_of_lt_succ hdd)) (fun r h' e => by obtain ⟨rfl, e⟩ := e; exact K h' e)
end XCalls
end
section
/-! what the tables say of each field, class and method that an instruction names, by program -/
theorem ok_S_init : xm_okM m_S_init := ⟨by decide +kernel, rfl, xt_in 37 (by decide +kernel) rfl, xt_in 26 (by decide +kernel) rfl, by decide +kernel, by decide⟩
theorem ok_S_job : xm_okM m_S_job := ⟨by decide +kernel, rfl, xt_in 75 (by decide +kernel) rfl, xt_in 26 (by decide +kernel) rfl, by decide +kernel, by decide⟩
theorem ok_Job_init : xm_okM m_Job_init := ⟨by decide +kernel, rfl, xt_in 79 (by decide +kernel) rfl, xt_in 28 (by decide +kernel) rfl, by decide +kernel, by decide⟩
theorem ok_S_needs : xm_okM m_S_needs := ⟨by decide +kernel, rfl, xt_in 110 (by decide +kernel) rfl, xt_in 26 (by decide +kernel) rfl, by decide +kernel, by decide⟩
theorem ok_Job_isNeeding : xm_okM m_Job_isNeeding := ⟨by decide +kernel, rfl, xt_in 114 (by decide +kernel) rfl, xt_in 28 (by decide +kernel) rfl, by decide +kernel, by decide⟩
theorem ok_S_runner : xm_okM m_S_runner := ⟨by decide +kernel, rfl, xt_in 118 (by decide +kernel) rfl, xt_in 26 (by decide +kernel) rfl, by decide +kernel, by decide⟩
theorem ok_Rnr_init : xm_okM m_Rnr_init := ⟨by decide +kernel, rfl, xt_in 122 (by decide +kernel) rfl, xt_in 29 (by decide +kernel) rfl, by decide +kernel, by decide⟩
theorem ok_S_lost : xm_okM m_S_lost := ⟨by decide +kernel, rfl, xt_in 146 (by decide +kernel) rfl, xt_in 26 (by decide +kernel) rfl, by decide +kernel, by decide⟩
theorem ok_S_trigger : xm_okM m_S_trigger := ⟨by decide +kernel, rfl, xt_in 150 (by decide +kernel) rfl, xt_in 26 (by decide +kernel) rfl, by decide +kernel, by decide⟩
theorem ok_S_isPerson : xm_okM m_S_isPerson := ⟨by decide +kernel, rfl, xt_in 153 (by decide +kernel) rfl, xt_in 26 (by decide +kernel) rfl, by decide +kernel, by decide⟩
theorem ok_S_cancelGroup : xm_okM m_S_cancelGroup := ⟨by decide +kernel, rfl, xt_in 157 (by decide +kernel) rfl, xt_in 26 (by decide +kernel) rfl, by decide +kernel, by decide⟩
theorem ok_Run_isOver : xm_okM m_Run_isOver := ⟨by decide +kernel, rfl, xt_in 161 (by decide +kernel) rfl, xt_in 30 (by decide +kernel) rfl, by decide +kernel, by decide⟩
theorem ok_Tsk_isEnded : xm_okM m_Tsk_isEnded := ⟨by decide +kernel, rfl, xt_in 165 (by decide +kernel) rfl, xt_in 31 (by decide +kernel) rfl, by decide +kernel, by decide⟩
theorem ok_Run_cancelAll : xm_okM m_Run_cancelAll := ⟨by decide +kernel, rfl, xt_in 169 (by decide +kernel) rfl, xt_in 30 (by decide +kernel) rfl, by decide +kernel, by decide⟩
theorem ok_Tsk_leaveRunner : xm_okM m_Tsk_leaveRunner := ⟨by decide +kernel, rfl, xt_in 173 (by decide +kernel) rfl, xt_in 31 (by decide +kernel) rfl, by decide +kernel, by decide⟩
theorem ok_S_newRun : xm_okM m_S_newRun := ⟨by decide +kernel, rfl, xt_in 177 (by decide +kernel) rfl, xt_in 26 (by decide +kernel) rfl, by decide +kernel, by decide⟩
theorem ok_Run_init : xm_okM m_Run_init := ⟨by decide +kernel, rfl, xt_in 181 (by decide +kernel) rfl, xt_in 30 (by decide +kernel) rfl, by decide +kernel, by decide⟩
theorem ok_Tsk_init : xm_okM m_Tsk_init := ⟨by decide +kernel, rfl, xt_in 210 (by decide +kernel) rfl, xt_in 31 (by decide +kernel) rfl, by decide +kernel, by decide⟩
theorem ok_S_settle : xm_okM m_S_settle := ⟨by decide +kernel, rfl, xt_in 262 (by decide +kernel) rfl, xt_in 26 (by decide +kernel) rfl, by decide +kernel, by decide⟩
theorem ok_Run_settleTasks : xm_okM m_Run_settleTasks := ⟨by decide +kernel, rfl, xt_in 266 (by decide +kernel) rfl, xt_in 30 (by decide +kernel) rfl, by decide +kernel, by decide⟩
theorem ok_Run_stateAfterWaiting : xm_okM m_Run_stateAfterWaiting := ⟨by decide +kernel, rfl, xt_in 270 (by decide +kernel) rfl, xt_in 30 (by decide +kernel) rfl, by decide +kernel, by decide⟩
theorem ok_Tsk_isFreeToRun : xm_okM m_Tsk_isFreeToRun := ⟨by decide +kernel, rfl, xt_in 275 (by decide +kernel) rfl, xt_in 31 (by decide +kernel) rfl, by decide +kernel, by decide⟩
theorem ok_I_bitCount : xm_okM m_I_bitCount := ⟨by decide +kernel, rfl, xt_in 278 (by decide +kernel) rfl, xt_in 32 (by decide +kernel) rfl, by decide +kernel, by decide⟩
theorem ok_S_approve : xm_okM m_S_approve := ⟨by decide +kernel, rfl, xt_in 285 (by decide +kernel) rfl, xt_in 26 (by decide +kernel) rfl, by decide +kernel, by decide⟩
theorem ok_S_findTask : xm_okM m_S_findTask := ⟨by decide +kernel, rfl, xt_in 289 (by decide +kernel) rfl, xt_in 26 (by decide +kernel) rfl, by decide +kernel, by decide⟩
theorem ok_S_findRun : xm_okM m_S_findRun := ⟨by decide +kernel, rfl, xt_in 293 (by decide +kernel) rfl, xt_in 26 (by decide +kernel) rfl, by decide +kernel, by decide⟩
theorem ok_S_take : xm_okM m_S_take := ⟨by decide +kernel, rfl, xt_in 298 (by decide +kernel) rfl, xt_in 26 (by decide +kernel) rfl, by decide +kernel, by decide⟩
theorem ok_S_findRunner : xm_okM m_S_findRunner := ⟨by decide +kernel, rfl, xt_in 302 (by decide +kernel) rfl, xt_in 26 (by decide +kernel) rfl, by decide +kernel, by decide⟩
theorem ok_S_nextFor : xm_okM m_S_nextFor := ⟨by decide +kernel, rfl, xt_in 306 (by decide +kernel) rfl, xt_in 26 (by decide +kernel) rfl, by decide +kernel, by decide⟩
theorem ok_Run_firstReadyFor : xm_okM m_Run_firstReadyFor := ⟨by decide +kernel, rfl, xt_in 310 (by decide +kernel) rfl, xt_in 30 (by decide +kernel) rfl, by decide +kernel, by decide⟩
theorem ok_S_isServedBefore : xm_okM m_S_isServedBefore := ⟨by decide +kernel, rfl, xt_in 314 (by decide +kernel) rfl, xt_in 26 (by decide +kernel) rfl, by decide +kernel, by decide⟩
theorem ok_S_runningOf : xm_okM m_S_runningOf := ⟨by decide +kernel, rfl, xt_in 318 (by decide +kernel) rfl, xt_in 26 (by decide +kernel) rfl, by decide +kernel, by decide⟩
theorem ok_Tsk_startOn : xm_okM m_Tsk_startOn := ⟨by decide +kernel, rfl, xt_in 322 (by decide +kernel) rfl, xt_in 31 (by decide +kernel) rfl, by decide +kernel, by decide⟩
theorem ok_Tsk_place : xm_okM m_Tsk_place := ⟨by decide +kernel, rfl, xt_in 326 (by decide +kernel) rfl, xt_in 31 (by decide +kernel) rfl, by decide +kernel, by decide⟩
theorem ok_S_beat : xm_okM m_S_beat := ⟨by decide +kernel, rfl, xt_in 330 (by decide +kernel) rfl, xt_in 26 (by decide +kernel) rfl, by decide +kernel, by decide⟩
theorem ok_S_end : xm_okM m_S_end := ⟨by decide +kernel, rfl, xt_in 334 (by decide +kernel) rfl, xt_in 26 (by decide +kernel) rfl, by decide +kernel, by decide⟩
theorem ok_Tsk_finish : xm_okM m_Tsk_finish := ⟨by decide +kernel, rfl, xt_in 338 (by decide +kernel) rfl, xt_in 31 (by decide +kernel) rfl, by decide +kernel, by decide⟩
theorem ok_Tsk_failTry : xm_okM m_Tsk_failTry := ⟨by decide +kernel, rfl, xt_in 343 (by decide +kernel) rfl, xt_in 31 (by decide +kernel) rfl, by decide +kernel, by decide⟩
theorem ok_S_tick : xm_okM m_S_tick := ⟨by decide +kernel, rfl, xt_in 347 (by decide +kernel) rfl, xt_in 26 (by decide +kernel) rfl, by decide +kernel, by decide⟩
theorem ok_S_isAnyRunnerBusy : xm_okM m_S_isAnyRunnerBusy := ⟨by decide +kernel, rfl, xt_in 351 (by decide +kernel) rfl, xt_in 26 (by decide +kernel) rfl, by decide +kernel, by decide⟩
theorem ok_S_checkRunners : xm_okM m_S_checkRunners := ⟨by decide +kernel, rfl, xt_in 355 (by decide +kernel) rfl, xt_in 26 (by decide +kernel) rfl, by decide +kernel, by decide⟩
theorem ok_Tsk_loseRunner : xm_okM m_Tsk_loseRunner := ⟨by decide +kernel, rfl, xt_in 359 (by decide +kernel) rfl, xt_in 31 (by decide +kernel) rfl, by decide +kernel, by decide⟩
theorem ok_Tsk_isPastLimit : xm_okM m_Tsk_isPastLimit := ⟨by decide +kernel, rfl, xt_in 363 (by decide +kernel) rfl, xt_in 31 (by decide +kernel) rfl, by decide +kernel, by decide⟩
theorem ok_S_cancel : xm_okM m_S_cancel := ⟨by decide +kernel, rfl, xt_in 367 (by decide +kernel) rfl, xt_in 26 (by decide +kernel) rfl, by decide +kernel, by decide⟩
theorem ok_S_again : xm_okM m_S_again := ⟨by decide +kernel, rfl, xt_in 371 (by decide +kernel) rfl, xt_in 26 (by decide +kernel) rfl, by decide +kernel, by decide⟩
theorem ok_Run_redoFailed : xm_okM m_Run_redoFailed := ⟨by decide +kernel, rfl, xt_in 375 (by decide +kernel) rfl, xt_in 30 (by decide +kernel) rfl, by decide +kernel, by decide⟩
theorem ok_Tsk_waitAgain : xm_okM m_Tsk_waitAgain := ⟨by decide +kernel, rfl, xt_in 379 (by decide +kernel) rfl, xt_in 31 (by decide +kernel) rfl, by decide +kernel, by decide⟩
theorem ok_S_state : xm_okM m_S_state := ⟨by decide +kernel, rfl, xt_in 383 (by decide +kernel) rfl, xt_in 26 (by decide +kernel) rfl, by decide +kernel, by decide⟩
theorem ok_S_about : xm_okM m_S_about := ⟨by decide +kernel, rfl, xt_in 387 (by decide +kernel) rfl, xt_in 26 (by decide +kernel) rfl, by decide +kernel, by decide⟩
theorem ok_Tsk_runnerNumber : xm_okM m_Tsk_runnerNumber := ⟨by decide +kernel, rfl, xt_in 391 (by decide +kernel) rfl, xt_in 31 (by decide +kernel) rfl, by decide +kernel, by decide⟩
theorem ok_Run_artefactsFor : xm_okM m_Run_artefactsFor := ⟨by decide +kernel, rfl, xt_in 395 (by decide +kernel) rfl, xt_in 30 (by decide +kernel) rfl, by decide +kernel, by decide⟩
theorem ok_S_verdict : xm_okM m_S_verdict := ⟨by decide +kernel, rfl, xt_in 399 (by decide +kernel) rfl, xt_in 26 (by decide +kernel) rfl, by decide +kernel, by decide⟩
theorem ok_Run_judge : xm_okM m_Run_judge := ⟨by decide +kernel, rfl, xt_in 403 (by decide +kernel) rfl, xt_in 30 (by decide +kernel) rfl, by decide +kernel, by decide⟩
theorem ok_Run_isAnyFailed : xm_okM m_Run_isAnyFailed := ⟨by decide +kernel, rfl, xt_in 408 (by decide +kernel) rfl, xt_in 30 (by decide +kernel) rfl, by decide +kernel, by decide⟩
theorem ok_S_has : xm_okM m_S_has := ⟨by decide +kernel, rfl, xt_in 412 (by decide +kernel) rfl, xt_in 26 (by decide +kernel) rfl, by decide +kernel, by decide⟩
theorem ok_M_init : xm_okM m_M_init := ⟨by decide +kernel, rfl, xt_in 417 (by decide +kernel) rfl, xt_in 27 (by decide +kernel) rfl, by decide +kernel, by decide⟩
theorem ok_M_job : xm_okM m_M_job := ⟨by decide +kernel, rfl, xt_in 503 (by decide +kernel) rfl, xt_in 27 (by decide +kernel) rfl, by decide +kernel, by decide⟩
theorem ok_M_needs : xm_okM m_M_needs := ⟨by decide +kernel, rfl, xt_in 507 (by decide +kernel) rfl, xt_in 27 (by decide +kernel) rfl, by decide +kernel, by decide⟩
theorem ok_M_isJob : xm_okM m_M_isJob := ⟨by decide +kernel, rfl, xt_in 511 (by decide +kernel) rfl, xt_in 27 (by decide +kernel) rfl, by decide +kernel, by decide⟩
theorem ok_M_runner : xm_okM m_M_runner := ⟨by decide +kernel, rfl, xt_in 515 (by decide +kernel) rfl, xt_in 27 (by decide +kernel) rfl, by decide +kernel, by decide⟩
theorem ok_M_lost : xm_okM m_M_lost := ⟨by decide +kernel, rfl, xt_in 519 (by decide +kernel) rfl, xt_in 27 (by decide +kernel) rfl, by decide +kernel, by decide⟩
theorem ok_M_trigger : xm_okM m_M_trigger := ⟨by decide +kernel, rfl, xt_in 523 (by decide +kernel) rfl, xt_in 27 (by decide +kernel) rfl, by decide +kernel, by decide⟩
theorem ok_M_isOver : xm_okM m_M_isOver := ⟨by decide +kernel, rfl, xt_in 527 (by decide +kernel) rfl, xt_in 27 (by decide +kernel) rfl, by decide +kernel, by decide⟩
theorem ok_M_isEnd : xm_okM m_M_isEnd := ⟨by decide +kernel, rfl, xt_in 530 (by decide +kernel) rfl, xt_in 27 (by decide +kernel) rfl, by decide +kernel, by decide⟩
theorem ok_M_stop : xm_okM m_M_stop := ⟨by decide +kernel, rfl, xt_in 534 (by decide +kernel) rfl, xt_in 27 (by decide +kernel) rfl, by decide +kernel, by decide⟩
theorem ok_M_free : xm_okM m_M_free := ⟨by decide +kernel, rfl, xt_in 538 (by decide +kernel) rfl, xt_in 27 (by decide +kernel) rfl, by decide +kernel, by decide⟩
theorem ok_M_settle : xm_okM m_M_settle := ⟨by decide +kernel, rfl, xt_in 542 (by decide +kernel) rfl, xt_in 27 (by decide +kernel) rfl, by decide +kernel, by decide⟩
theorem ok_M_becomes : xm_okM m_M_becomes := ⟨by decide +kernel, rfl, xt_in 546 (by decide +kernel) rfl, xt_in 27 (by decide +kernel) rfl, by decide +kernel, by decide⟩
theorem ok_M_isApproved : xm_okM m_M_isApproved := ⟨by decide +kernel, rfl, xt_in 550 (by decide +kernel) rfl, xt_in 27 (by decide +kernel) rfl, by decide +kernel, by decide⟩
theorem ok_M_approve : xm_okM m_M_approve := ⟨by decide +kernel, rfl, xt_in 554 (by decide +kernel) rfl, xt_in 27 (by decide +kernel) rfl, by decide +kernel, by decide⟩
theorem ok_M_isThere : xm_okM m_M_isThere := ⟨by decide +kernel, rfl, xt_in 558 (by decide +kernel) rfl, xt_in 27 (by decide +kernel) rfl, by decide +kernel, by decide⟩
theorem ok_M_isRun : xm_okM m_M_isRun := ⟨by decide +kernel, rfl, xt_in 562 (by decide +kernel) rfl, xt_in 27 (by decide +kernel) rfl, by decide +kernel, by decide⟩
theorem ok_M_take : xm_okM m_M_take := ⟨by decide +kernel, rfl, xt_in 566 (by decide +kernel) rfl, xt_in 27 (by decide +kernel) rfl, by decide +kernel, by decide⟩
theorem ok_M_isRunner : xm_okM m_M_isRunner := ⟨by decide +kernel, rfl, xt_in 570 (by decide +kernel) rfl, xt_in 27 (by decide +kernel) rfl, by decide +kernel, by decide⟩
theorem ok_M_busy : xm_okM m_M_busy := ⟨by decide +kernel, rfl, xt_in 574 (by decide +kernel) rfl, xt_in 27 (by decide +kernel) rfl, by decide +kernel, by decide⟩
theorem ok_M_beat : xm_okM m_M_beat := ⟨by decide +kernel, rfl, xt_in 578 (by decide +kernel) rfl, xt_in 27 (by decide +kernel) rfl, by decide +kernel, by decide⟩
theorem ok_M_end : xm_okM m_M_end := ⟨by decide +kernel, rfl, xt_in 582 (by decide +kernel) rfl, xt_in 27 (by decide +kernel) rfl, by decide +kernel, by decide⟩
theorem ok_M_failTry : xm_okM m_M_failTry := ⟨by decide +kernel, rfl, xt_in 586 (by decide +kernel) rfl, xt_in 27 (by decide +kernel) rfl, by decide +kernel, by decide⟩
theorem ok_M_tick : xm_okM m_M_tick := ⟨by decide +kernel, rfl, xt_in 590 (by decide +kernel) rfl, xt_in 27 (by decide +kernel) rfl, by decide +kernel, by decide⟩
theorem ok_M_pass : xm_okM m_M_pass := ⟨by decide +kernel, rfl, xt_in 594 (by decide +kernel) rfl, xt_in 27 (by decide +kernel) rfl, by decide +kernel, by decide⟩
theorem ok_M_runnerOf : xm_okM m_M_runnerOf := ⟨by decide +kernel, rfl, xt_in 598 (by decide +kernel) rfl, xt_in 27 (by decide +kernel) rfl, by decide +kernel, by decide⟩
theorem ok_M_cancel : xm_okM m_M_cancel := ⟨by decide +kernel, rfl, xt_in 602 (by decide +kernel) rfl, xt_in 27 (by decide +kernel) rfl, by decide +kernel, by decide⟩
theorem ok_M_again : xm_okM m_M_again := ⟨by decide +kernel, rfl, xt_in 606 (by decide +kernel) rfl, xt_in 27 (by decide +kernel) rfl, by decide +kernel, by decide⟩
theorem ok_M_state : xm_okM m_M_state := ⟨by decide +kernel, rfl, xt_in 610 (by decide +kernel) rfl, xt_in 27 (by decide +kernel) rfl, by decide +kernel, by decide⟩
theorem ok_M_about : xm_okM m_M_about := ⟨by decide +kernel, rfl, xt_in 614 (by decide +kernel) rfl, xt_in 27 (by decide +kernel) rfl, by decide +kernel, by decide⟩
theorem ok_M_verdict : xm_okM m_M_verdict := ⟨by decide +kernel, rfl, xt_in 618 (by decide +kernel) rfl, xt_in 27 (by decide +kernel) rfl, by decide +kernel, by decide⟩
theorem ok_M_has : xm_okM m_M_has := ⟨by decide +kernel, rfl, xt_in 622 (by decide +kernel) rfl, xt_in 27 (by decide +kernel) rfl, by decide +kernel, by decide⟩
theorem xc_6_7 : xm_okN 6 7 4 := ⟨_, _, _, rfl, xt_in 33 (by decide +kernel) rfl⟩
theorem xi_6_9 : xm_okI 6 9 m_S_init := ⟨ok_S_init, xt_in 35 (by decide +kernel) rfl, xt_in 36 (by decide +kernel) rfl, rfl, rfl, by decide⟩
theorem xo_4_1 : xm_okO 4 1 := ⟨xt_in 38 (by decide +kernel) rfl, xt_in 39 (by decide +kernel) rfl, xt_in 40 (by decide +kernel) rfl⟩
theorem xc_4_9 : xm_okN 4 9 0 := ⟨_, _, _, rfl, xt_in 41 (by decide +kernel) rfl⟩
theorem xa_4_9 : xm_okA 4 9 2 := ⟨_, rfl, xt_in 41 (by decide +kernel) rfl⟩
theorem xc_4_15 : xm_okN 4 15 2 := ⟨_, _, _, rfl, xt_in 43 (by decide +kernel) rfl⟩
theorem xa_4_15 : xm_okA 4 15 3 := ⟨_, rfl, xt_in 43 (by decide +kernel) rfl⟩
theorem xc_4_21 : xm_okN 4 21 1 := ⟨_, _, _, rfl, xt_in 45 (by decide +kernel) rfl⟩
theorem xa_4_21 : xm_okA 4 21 4 := ⟨_, rfl, xt_in 45 (by decide +kernel) rfl⟩
theorem xf_4_11 : xm_okF 4 11 4 0 := ⟨_, _, _, rfl, by decide, xt_in 47 (by decide +kernel) rfl⟩
theorem xf_4_17 : xm_okF 4 17 4 1 := ⟨_, _, _, rfl, by decide, xt_in 48 (by decide +kernel) rfl⟩
theorem xf_4_23 : xm_okF 4 23 4 2 := ⟨_, _, _, rfl, by decide, xt_in 49 (by decide +kernel) rfl⟩
theorem xf_4_27 : xm_okF 4 27 4 3 := ⟨_, _, _, rfl, by decide, xt_in 50 (by decide +kernel) rfl⟩
theorem xf_4_31 : xm_okF 4 31 4 4 := ⟨_, _, _, rfl, by decide, xt_in 51 (by decide +kernel) rfl⟩
theorem xf_4_34 : xm_okF 4 34 4 5 := ⟨_, _, _, rfl, by decide, xt_in 52 (by decide +kernel) rfl⟩
theorem xf_4_37 : xm_okF 4 37 4 6 := ⟨_, _, _, rfl, by decide, xt_in 53 (by decide +kernel) rfl⟩
theorem xf_4_40 : xm_okF 4 40 4 7 := ⟨_, _, _, rfl, by decide, xt_in 54 (by decide +kernel) rfl⟩
theorem xv_6_13 : xm_okV 6 13 m_S_job := ⟨ok_S_job, xt_in 72 (by decide +kernel) rfl, xt_in 73 (by decide +kernel) rfl, xt_in 74 (by decide +kernel) rfl, by decide, _, _, rfl⟩
theorem xi_4_43 : xm_okI 4 43 m_Job_init := ⟨ok_Job_init, xt_in 77 (by decide +kernel) rfl, xt_in 78 (by decide +kernel) rfl, rfl, rfl, by decide⟩
theorem xo_0_1 : xm_okO 0 1 := ⟨xt_in 80 (by decide +kernel) rfl, xt_in 39 (by decide +kernel) rfl, xt_in 40 (by decide +kernel) rfl⟩
theorem xf_0_13 : xm_okF 0 13 0 0 := ⟨_, _, _, rfl, by decide, xt_in 81 (by decide +kernel) rfl⟩
theorem xf_1_70 : xm_okF 1 70 0 0 := ⟨_, _, _, rfl, by decide, xt_in 82 (by decide +kernel) rfl⟩
theorem xf_0_16 : xm_okF 0 16 0 1 := ⟨_, _, _, rfl, by decide, xt_in 83 (by decide +kernel) rfl⟩
theorem xf_3_66 : xm_okF 3 66 0 1 := ⟨_, _, _, rfl, by decide, xt_in 84 (by decide +kernel) rfl⟩
theorem xf_0_19 : xm_okF 0 19 0 2 := ⟨_, _, _, rfl, by decide, xt_in 85 (by decide +kernel) rfl⟩
theorem xf_3_82 : xm_okF 3 82 0 2 := ⟨_, _, _, rfl, by decide, xt_in 86 (by decide +kernel) rfl⟩
theorem xf_0_22 : xm_okF 0 22 0 3 := ⟨_, _, _, rfl, by decide, xt_in 87 (by decide +kernel) rfl⟩
theorem xf_1_48 : xm_okF 1 48 0 3 := ⟨_, _, _, rfl, by decide, xt_in 88 (by decide +kernel) rfl⟩
theorem xf_0_26 : xm_okF 0 26 0 4 := ⟨_, _, _, rfl, by decide, xt_in 89 (by decide +kernel) rfl⟩
theorem xf_3_55 : xm_okF 3 55 0 4 := ⟨_, _, _, rfl, by decide, xt_in 90 (by decide +kernel) rfl⟩
theorem xf_4_80 : xm_okF 4 80 0 4 := ⟨_, _, _, rfl, by decide, xt_in 91 (by decide +kernel) rfl⟩
theorem xf_0_7 : xm_okF 0 7 0 5 := ⟨_, _, _, rfl, by decide, xt_in 92 (by decide +kernel) rfl⟩
theorem xf_4_50 : xm_okF 4 50 0 5 := ⟨_, _, _, rfl, by decide, xt_in 93 (by decide +kernel) rfl⟩
theorem xv_6_18 : xm_okV 6 18 m_S_needs := ⟨ok_S_needs, xt_in 107 (by decide +kernel) rfl, xt_in 108 (by decide +kernel) rfl, xt_in 109 (by decide +kernel) rfl, by decide, _, _, rfl⟩
theorem xv_4_46 : xm_okV 4 46 m_Job_isNeeding := ⟨ok_Job_isNeeding, xt_in 111 (by decide +kernel) rfl, xt_in 112 (by decide +kernel) rfl, xt_in 113 (by decide +kernel) rfl, by decide, _, _, rfl⟩
theorem xv_6_23 : xm_okV 6 23 m_S_runner := ⟨ok_S_runner, xt_in 115 (by decide +kernel) rfl, xt_in 116 (by decide +kernel) rfl, xt_in 117 (by decide +kernel) rfl, by decide, _, _, rfl⟩
theorem xi_4_53 : xm_okI 4 53 m_Rnr_init := ⟨ok_Rnr_init, xt_in 120 (by decide +kernel) rfl, xt_in 121 (by decide +kernel) rfl, rfl, rfl, by decide⟩
theorem xo_2_1 : xm_okO 2 1 := ⟨xt_in 123 (by decide +kernel) rfl, xt_in 39 (by decide +kernel) rfl, xt_in 40 (by decide +kernel) rfl⟩
theorem xf_2_13 : xm_okF 2 13 2 0 := ⟨_, _, _, rfl, by decide, xt_in 124 (by decide +kernel) rfl⟩
theorem xf_3_69 : xm_okF 3 69 2 0 := ⟨_, _, _, rfl, by decide, xt_in 125 (by decide +kernel) rfl⟩
theorem xf_2_17 : xm_okF 2 17 2 1 := ⟨_, _, _, rfl, by decide, xt_in 126 (by decide +kernel) rfl⟩
theorem xf_1_73 : xm_okF 1 73 2 1 := ⟨_, _, _, rfl, by decide, xt_in 127 (by decide +kernel) rfl⟩
theorem xf_2_20 : xm_okF 2 20 2 2 := ⟨_, _, _, rfl, by decide, xt_in 128 (by decide +kernel) rfl⟩
theorem xf_3_76 : xm_okF 3 76 2 2 := ⟨_, _, _, rfl, by decide, xt_in 129 (by decide +kernel) rfl⟩
theorem xf_4_118 : xm_okF 4 118 2 2 := ⟨_, _, _, rfl, by decide, xt_in 130 (by decide +kernel) rfl⟩
theorem xf_2_7 : xm_okF 2 7 2 3 := ⟨_, _, _, rfl, by decide, xt_in 131 (by decide +kernel) rfl⟩
theorem xf_3_72 : xm_okF 3 72 2 3 := ⟨_, _, _, rfl, by decide, xt_in 132 (by decide +kernel) rfl⟩
theorem xf_4_102 : xm_okF 4 102 2 3 := ⟨_, _, _, rfl, by decide, xt_in 133 (by decide +kernel) rfl⟩
theorem xv_6_28 : xm_okV 6 28 m_S_lost := ⟨ok_S_lost, xt_in 143 (by decide +kernel) rfl, xt_in 144 (by decide +kernel) rfl, xt_in 145 (by decide +kernel) rfl, by decide, _, _, rfl⟩
theorem xv_6_33 : xm_okV 6 33 m_S_trigger := ⟨ok_S_trigger, xt_in 147 (by decide +kernel) rfl, xt_in 148 (by decide +kernel) rfl, xt_in 149 (by decide +kernel) rfl, by decide, _, _, rfl⟩
theorem xs_4_56 : xm_okS 4 56 m_S_isPerson := ⟨ok_S_isPerson, xt_in 151 (by decide +kernel) rfl, xt_in 152 (by decide +kernel) rfl, by decide⟩
theorem xv_4_59 : xm_okV 4 59 m_S_cancelGroup := ⟨ok_S_cancelGroup, xt_in 154 (by decide +kernel) rfl, xt_in 156 (by decide +kernel) rfl, xt_in 0 (by decide +kernel) rfl, by decide, _, _, rfl⟩
theorem xv_4_140 : xm_okV 4 140 m_Run_isOver := ⟨ok_Run_isOver, xt_in 158 (by decide +kernel) rfl, xt_in 159 (by decide +kernel) rfl, xt_in 160 (by decide +kernel) rfl, by decide, _, _, rfl⟩
theorem xv_1_31 : xm_okV 1 31 m_Tsk_isEnded := ⟨ok_Tsk_isEnded, xt_in 162 (by decide +kernel) rfl, xt_in 163 (by decide +kernel) rfl, xt_in 164 (by decide +kernel) rfl, by decide, _, _, rfl⟩
theorem xv_4_143 : xm_okV 4 143 m_Run_cancelAll := ⟨ok_Run_cancelAll, xt_in 166 (by decide +kernel) rfl, xt_in 167 (by decide +kernel) rfl, xt_in 168 (by decide +kernel) rfl, by decide, _, _, rfl⟩
theorem xv_1_53 : xm_okV 1 53 m_Tsk_leaveRunner := ⟨ok_Tsk_leaveRunner, xt_in 170 (by decide +kernel) rfl, xt_in 171 (by decide +kernel) rfl, xt_in 172 (by decide +kernel) rfl, by decide, _, _, rfl⟩
theorem xv_4_63 : xm_okV 4 63 m_S_newRun := ⟨ok_S_newRun, xt_in 174 (by decide +kernel) rfl, xt_in 176 (by decide +kernel) rfl, xt_in 1 (by decide +kernel) rfl, by decide, _, _, rfl⟩
theorem xi_4_175 : xm_okI 4 175 m_Run_init := ⟨ok_Run_init, xt_in 179 (by decide +kernel) rfl, xt_in 180 (by decide +kernel) rfl, rfl, rfl, by decide⟩
theorem xo_1_3 : xm_okO 1 3 := ⟨xt_in 182 (by decide +kernel) rfl, xt_in 39 (by decide +kernel) rfl, xt_in 40 (by decide +kernel) rfl⟩
theorem xc_1_25 : xm_okN 1 25 3 := ⟨_, _, _, rfl, xt_in 183 (by decide +kernel) rfl⟩
theorem xa_1_25 : xm_okA 1 25 5 := ⟨_, rfl, xt_in 183 (by decide +kernel) rfl⟩
theorem xf_1_15 : xm_okF 1 15 1 0 := ⟨_, _, _, rfl, by decide, xt_in 185 (by decide +kernel) rfl⟩
theorem xf_3_52 : xm_okF 3 52 1 0 := ⟨_, _, _, rfl, by decide, xt_in 186 (by decide +kernel) rfl⟩
theorem xf_1_19 : xm_okF 1 19 1 1 := ⟨_, _, _, rfl, by decide, xt_in 187 (by decide +kernel) rfl⟩
theorem xf_4_92 : xm_okF 4 92 1 1 := ⟨_, _, _, rfl, by decide, xt_in 188 (by decide +kernel) rfl⟩
theorem xf_1_22 : xm_okF 1 22 1 2 := ⟨_, _, _, rfl, by decide, xt_in 189 (by decide +kernel) rfl⟩
theorem xf_4_181 : xm_okF 4 181 1 2 := ⟨_, _, _, rfl, by decide, xt_in 190 (by decide +kernel) rfl⟩
theorem xf_1_27 : xm_okF 1 27 1 3 := ⟨_, _, _, rfl, by decide, xt_in 191 (by decide +kernel) rfl⟩
theorem xf_4_171 : xm_okF 4 171 1 3 := ⟨_, _, _, rfl, by decide, xt_in 192 (by decide +kernel) rfl⟩
theorem xf_1_9 : xm_okF 1 9 1 4 := ⟨_, _, _, rfl, by decide, xt_in 193 (by decide +kernel) rfl⟩
theorem xf_4_137 : xm_okF 4 137 1 4 := ⟨_, _, _, rfl, by decide, xt_in 194 (by decide +kernel) rfl⟩
theorem xc_4_75 : xm_okN 4 75 3 := ⟨_, _, _, rfl, xt_in 206 (by decide +kernel) rfl⟩
theorem xa_4_75 : xm_okA 4 75 5 := ⟨_, rfl, xt_in 206 (by decide +kernel) rfl⟩
theorem xi_4_178 : xm_okI 4 178 m_Tsk_init := ⟨ok_Tsk_init, xt_in 208 (by decide +kernel) rfl, xt_in 209 (by decide +kernel) rfl, rfl, rfl, by decide⟩
theorem xo_3_3 : xm_okO 3 3 := ⟨xt_in 211 (by decide +kernel) rfl, xt_in 39 (by decide +kernel) rfl, xt_in 40 (by decide +kernel) rfl⟩
theorem xf_3_41 : xm_okF 3 41 3 0 := ⟨_, _, _, rfl, by decide, xt_in 212 (by decide +kernel) rfl⟩
theorem xf_4_88 : xm_okF 4 88 3 0 := ⟨_, _, _, rfl, by decide, xt_in 213 (by decide +kernel) rfl⟩
theorem xf_3_45 : xm_okF 3 45 3 1 := ⟨_, _, _, rfl, by decide, xt_in 214 (by decide +kernel) rfl⟩
theorem xf_3_48 : xm_okF 3 48 3 2 := ⟨_, _, _, rfl, by decide, xt_in 215 (by decide +kernel) rfl⟩
theorem xf_1_44 : xm_okF 1 44 3 2 := ⟨_, _, _, rfl, by decide, xt_in 216 (by decide +kernel) rfl⟩
theorem xf_4_74 : xm_okF 4 74 3 2 := ⟨_, _, _, rfl, by decide, xt_in 217 (by decide +kernel) rfl⟩
theorem xf_3_9 : xm_okF 3 9 3 3 := ⟨_, _, _, rfl, by decide, xt_in 218 (by decide +kernel) rfl⟩
theorem xf_1_35 : xm_okF 1 35 3 3 := ⟨_, _, _, rfl, by decide, xt_in 219 (by decide +kernel) rfl⟩
theorem xf_4_149 : xm_okF 4 149 3 3 := ⟨_, _, _, rfl, by decide, xt_in 220 (by decide +kernel) rfl⟩
theorem xf_3_15 : xm_okF 3 15 3 4 := ⟨_, _, _, rfl, by decide, xt_in 221 (by decide +kernel) rfl⟩
theorem xf_3_19 : xm_okF 3 19 3 5 := ⟨_, _, _, rfl, by decide, xt_in 222 (by decide +kernel) rfl⟩
theorem xf_3_22 : xm_okF 3 22 3 6 := ⟨_, _, _, rfl, by decide, xt_in 223 (by decide +kernel) rfl⟩
theorem xf_4_95 : xm_okF 4 95 3 6 := ⟨_, _, _, rfl, by decide, xt_in 224 (by decide +kernel) rfl⟩
theorem xf_3_25 : xm_okF 3 25 3 7 := ⟨_, _, _, rfl, by decide, xt_in 225 (by decide +kernel) rfl⟩
theorem xf_1_76 : xm_okF 1 76 3 7 := ⟨_, _, _, rfl, by decide, xt_in 226 (by decide +kernel) rfl⟩
theorem xf_4_161 : xm_okF 4 161 3 7 := ⟨_, _, _, rfl, by decide, xt_in 227 (by decide +kernel) rfl⟩
theorem xf_3_28 : xm_okF 3 28 3 8 := ⟨_, _, _, rfl, by decide, xt_in 228 (by decide +kernel) rfl⟩
theorem xf_4_155 : xm_okF 4 155 3 8 := ⟨_, _, _, rfl, by decide, xt_in 229 (by decide +kernel) rfl⟩
theorem xf_3_31 : xm_okF 3 31 3 9 := ⟨_, _, _, rfl, by decide, xt_in 230 (by decide +kernel) rfl⟩
theorem xf_4_158 : xm_okF 4 158 3 9 := ⟨_, _, _, rfl, by decide, xt_in 231 (by decide +kernel) rfl⟩
theorem xf_3_34 : xm_okF 3 34 3 10 := ⟨_, _, _, rfl, by decide, xt_in 232 (by decide +kernel) rfl⟩
theorem xf_3_37 : xm_okF 3 37 3 11 := ⟨_, _, _, rfl, by decide, xt_in 233 (by decide +kernel) rfl⟩
theorem xv_4_67 : xm_okV 4 67 m_S_settle := ⟨ok_S_settle, xt_in 259 (by decide +kernel) rfl, xt_in 261 (by decide +kernel) rfl, xt_in 2 (by decide +kernel) rfl, by decide, _, _, rfl⟩
theorem xv_4_184 : xm_okV 4 184 m_Run_settleTasks := ⟨ok_Run_settleTasks, xt_in 263 (by decide +kernel) rfl, xt_in 264 (by decide +kernel) rfl, xt_in 265 (by decide +kernel) rfl, by decide, _, _, rfl⟩
theorem xv_1_59 : xm_okV 1 59 m_Run_stateAfterWaiting := ⟨ok_Run_stateAfterWaiting, xt_in 267 (by decide +kernel) rfl, xt_in 268 (by decide +kernel) rfl, xt_in 269 (by decide +kernel) rfl, by decide, _, _, rfl⟩
theorem xv_1_63 : xm_okV 1 63 m_Job_isNeeding := ⟨ok_Job_isNeeding, xt_in 271 (by decide +kernel) rfl, xt_in 112 (by decide +kernel) rfl, xt_in 113 (by decide +kernel) rfl, by decide, _, _, rfl⟩
theorem xv_1_67 : xm_okV 1 67 m_Tsk_isFreeToRun := ⟨ok_Tsk_isFreeToRun, xt_in 272 (by decide +kernel) rfl, xt_in 273 (by decide +kernel) rfl, xt_in 274 (by decide +kernel) rfl, by decide, _, _, rfl⟩
theorem xs_3_60 : xm_okS 3 60 m_I_bitCount := ⟨ok_I_bitCount, xt_in 276 (by decide +kernel) rfl, xt_in 277 (by decide +kernel) rfl, by decide⟩
theorem xl_7_265 : xm_okL 7 265 1431655765 := xt_in 279 (by decide +kernel) rfl
theorem xl_7_266 : xm_okL 7 266 858993459 := xt_in 280 (by decide +kernel) rfl
theorem xl_7_267 : xm_okL 7 267 252645135 := xt_in 281 (by decide +kernel) rfl
theorem xv_6_38 : xm_okV 6 38 m_S_approve := ⟨ok_S_approve, xt_in 282 (by decide +kernel) rfl, xt_in 283 (by decide +kernel) rfl, xt_in 284 (by decide +kernel) rfl, by decide, _, _, rfl⟩
theorem xv_4_70 : xm_okV 4 70 m_S_findTask := ⟨ok_S_findTask, xt_in 286 (by decide +kernel) rfl, xt_in 288 (by decide +kernel) rfl, xt_in 3 (by decide +kernel) rfl, by decide, _, _, rfl⟩
theorem xv_4_133 : xm_okV 4 133 m_S_findRun := ⟨ok_S_findRun, xt_in 290 (by decide +kernel) rfl, xt_in 292 (by decide +kernel) rfl, xt_in 4 (by decide +kernel) rfl, by decide, _, _, rfl⟩
theorem xv_4_84 : xm_okV 4 84 m_Tsk_isEnded := ⟨ok_Tsk_isEnded, xt_in 294 (by decide +kernel) rfl, xt_in 163 (by decide +kernel) rfl, xt_in 164 (by decide +kernel) rfl, by decide, _, _, rfl⟩
theorem xv_6_43 : xm_okV 6 43 m_S_take := ⟨ok_S_take, xt_in 295 (by decide +kernel) rfl, xt_in 296 (by decide +kernel) rfl, xt_in 297 (by decide +kernel) rfl, by decide, _, _, rfl⟩
theorem xv_4_98 : xm_okV 4 98 m_S_findRunner := ⟨ok_S_findRunner, xt_in 299 (by decide +kernel) rfl, xt_in 301 (by decide +kernel) rfl, xt_in 5 (by decide +kernel) rfl, by decide, _, _, rfl⟩
theorem xv_4_106 : xm_okV 4 106 m_S_nextFor := ⟨ok_S_nextFor, xt_in 303 (by decide +kernel) rfl, xt_in 305 (by decide +kernel) rfl, xt_in 6 (by decide +kernel) rfl, by decide, _, _, rfl⟩
theorem xv_4_187 : xm_okV 4 187 m_Run_firstReadyFor := ⟨ok_Run_firstReadyFor, xt_in 307 (by decide +kernel) rfl, xt_in 308 (by decide +kernel) rfl, xt_in 309 (by decide +kernel) rfl, by decide, _, _, rfl⟩
theorem xv_4_190 : xm_okV 4 190 m_S_isServedBefore := ⟨ok_S_isServedBefore, xt_in 311 (by decide +kernel) rfl, xt_in 313 (by decide +kernel) rfl, xt_in 7 (by decide +kernel) rfl, by decide, _, _, rfl⟩
theorem xv_4_194 : xm_okV 4 194 m_S_runningOf := ⟨ok_S_runningOf, xt_in 315 (by decide +kernel) rfl, xt_in 317 (by decide +kernel) rfl, xt_in 8 (by decide +kernel) rfl, by decide, _, _, rfl⟩
theorem xv_4_110 : xm_okV 4 110 m_Tsk_startOn := ⟨ok_Tsk_startOn, xt_in 319 (by decide +kernel) rfl, xt_in 320 (by decide +kernel) rfl, xt_in 321 (by decide +kernel) rfl, by decide, _, _, rfl⟩
theorem xv_4_114 : xm_okV 4 114 m_Tsk_place := ⟨ok_Tsk_place, xt_in 323 (by decide +kernel) rfl, xt_in 324 (by decide +kernel) rfl, xt_in 325 (by decide +kernel) rfl, by decide, _, _, rfl⟩
theorem xv_6_47 : xm_okV 6 47 m_S_beat := ⟨ok_S_beat, xt_in 327 (by decide +kernel) rfl, xt_in 328 (by decide +kernel) rfl, xt_in 329 (by decide +kernel) rfl, by decide, _, _, rfl⟩
theorem xv_6_51 : xm_okV 6 51 m_S_end := ⟨ok_S_end, xt_in 331 (by decide +kernel) rfl, xt_in 332 (by decide +kernel) rfl, xt_in 333 (by decide +kernel) rfl, by decide, _, _, rfl⟩
theorem xv_4_121 : xm_okV 4 121 m_Tsk_finish := ⟨ok_Tsk_finish, xt_in 335 (by decide +kernel) rfl, xt_in 336 (by decide +kernel) rfl, xt_in 337 (by decide +kernel) rfl, by decide, _, _, rfl⟩
theorem xv_3_79 : xm_okV 3 79 m_Tsk_leaveRunner := ⟨ok_Tsk_leaveRunner, xt_in 339 (by decide +kernel) rfl, xt_in 171 (by decide +kernel) rfl, xt_in 172 (by decide +kernel) rfl, by decide, _, _, rfl⟩
theorem xv_4_124 : xm_okV 4 124 m_Tsk_failTry := ⟨ok_Tsk_failTry, xt_in 340 (by decide +kernel) rfl, xt_in 341 (by decide +kernel) rfl, xt_in 342 (by decide +kernel) rfl, by decide, _, _, rfl⟩
theorem xv_6_56 : xm_okV 6 56 m_S_tick := ⟨ok_S_tick, xt_in 344 (by decide +kernel) rfl, xt_in 345 (by decide +kernel) rfl, xt_in 346 (by decide +kernel) rfl, by decide, _, _, rfl⟩
theorem xv_4_127 : xm_okV 4 127 m_S_isAnyRunnerBusy := ⟨ok_S_isAnyRunnerBusy, xt_in 348 (by decide +kernel) rfl, xt_in 350 (by decide +kernel) rfl, xt_in 9 (by decide +kernel) rfl, by decide, _, _, rfl⟩
theorem xv_4_130 : xm_okV 4 130 m_S_checkRunners := ⟨ok_S_checkRunners, xt_in 352 (by decide +kernel) rfl, xt_in 354 (by decide +kernel) rfl, xt_in 10 (by decide +kernel) rfl, by decide, _, _, rfl⟩
theorem xv_4_198 : xm_okV 4 198 m_Tsk_loseRunner := ⟨ok_Tsk_loseRunner, xt_in 356 (by decide +kernel) rfl, xt_in 357 (by decide +kernel) rfl, xt_in 358 (by decide +kernel) rfl, by decide, _, _, rfl⟩
theorem xv_4_201 : xm_okV 4 201 m_Tsk_isPastLimit := ⟨ok_Tsk_isPastLimit, xt_in 360 (by decide +kernel) rfl, xt_in 361 (by decide +kernel) rfl, xt_in 362 (by decide +kernel) rfl, by decide, _, _, rfl⟩
theorem xv_6_60 : xm_okV 6 60 m_S_cancel := ⟨ok_S_cancel, xt_in 364 (by decide +kernel) rfl, xt_in 365 (by decide +kernel) rfl, xt_in 366 (by decide +kernel) rfl, by decide, _, _, rfl⟩
theorem xv_6_64 : xm_okV 6 64 m_S_again := ⟨ok_S_again, xt_in 368 (by decide +kernel) rfl, xt_in 369 (by decide +kernel) rfl, xt_in 370 (by decide +kernel) rfl, by decide, _, _, rfl⟩
theorem xv_4_146 : xm_okV 4 146 m_Run_redoFailed := ⟨ok_Run_redoFailed, xt_in 372 (by decide +kernel) rfl, xt_in 373 (by decide +kernel) rfl, xt_in 374 (by decide +kernel) rfl, by decide, _, _, rfl⟩
theorem xv_1_56 : xm_okV 1 56 m_Tsk_waitAgain := ⟨ok_Tsk_waitAgain, xt_in 376 (by decide +kernel) rfl, xt_in 377 (by decide +kernel) rfl, xt_in 378 (by decide +kernel) rfl, by decide, _, _, rfl⟩
theorem xv_6_68 : xm_okV 6 68 m_S_state := ⟨ok_S_state, xt_in 380 (by decide +kernel) rfl, xt_in 381 (by decide +kernel) rfl, xt_in 382 (by decide +kernel) rfl, by decide, _, _, rfl⟩
theorem xv_6_72 : xm_okV 6 72 m_S_about := ⟨ok_S_about, xt_in 384 (by decide +kernel) rfl, xt_in 385 (by decide +kernel) rfl, xt_in 386 (by decide +kernel) rfl, by decide, _, _, rfl⟩
theorem xv_4_152 : xm_okV 4 152 m_Tsk_runnerNumber := ⟨ok_Tsk_runnerNumber, xt_in 388 (by decide +kernel) rfl, xt_in 389 (by decide +kernel) rfl, xt_in 390 (by decide +kernel) rfl, by decide, _, _, rfl⟩
theorem xv_4_164 : xm_okV 4 164 m_Run_artefactsFor := ⟨ok_Run_artefactsFor, xt_in 392 (by decide +kernel) rfl, xt_in 393 (by decide +kernel) rfl, xt_in 394 (by decide +kernel) rfl, by decide, _, _, rfl⟩
theorem xv_6_76 : xm_okV 6 76 m_S_verdict := ⟨ok_S_verdict, xt_in 396 (by decide +kernel) rfl, xt_in 397 (by decide +kernel) rfl, xt_in 398 (by decide +kernel) rfl, by decide, _, _, rfl⟩
theorem xv_4_168 : xm_okV 4 168 m_Run_judge := ⟨ok_Run_judge, xt_in 400 (by decide +kernel) rfl, xt_in 401 (by decide +kernel) rfl, xt_in 402 (by decide +kernel) rfl, by decide, _, _, rfl⟩
theorem xv_1_38 : xm_okV 1 38 m_Run_isOver := ⟨ok_Run_isOver, xt_in 404 (by decide +kernel) rfl, xt_in 159 (by decide +kernel) rfl, xt_in 160 (by decide +kernel) rfl, by decide, _, _, rfl⟩
theorem xv_1_41 : xm_okV 1 41 m_Run_isAnyFailed := ⟨ok_Run_isAnyFailed, xt_in 405 (by decide +kernel) rfl, xt_in 406 (by decide +kernel) rfl, xt_in 407 (by decide +kernel) rfl, by decide, _, _, rfl⟩
theorem xv_6_80 : xm_okV 6 80 m_S_has := ⟨ok_S_has, xt_in 409 (by decide +kernel) rfl, xt_in 410 (by decide +kernel) rfl, xt_in 411 (by decide +kernel) rfl, by decide, _, _, rfl⟩
theorem xc_6_10 : xm_okN 6 10 5 := ⟨_, _, _, rfl, xt_in 413 (by decide +kernel) rfl⟩
theorem xi_6_12 : xm_okI 6 12 m_M_init := ⟨ok_M_init, xt_in 415 (by decide +kernel) rfl, xt_in 416 (by decide +kernel) rfl, rfl, rfl, by decide⟩
theorem xo_5_1 : xm_okO 5 1 := ⟨xt_in 418 (by decide +kernel) rfl, xt_in 39 (by decide +kernel) rfl, xt_in 40 (by decide +kernel) rfl⟩
theorem xf_5_75 : xm_okF 5 75 5 0 := ⟨_, _, _, rfl, by decide, xt_in 419 (by decide +kernel) rfl⟩
theorem xf_5_91 : xm_okF 5 91 5 1 := ⟨_, _, _, rfl, by decide, xt_in 420 (by decide +kernel) rfl⟩
theorem xf_5_7 : xm_okF 5 7 5 2 := ⟨_, _, _, rfl, by decide, xt_in 421 (by decide +kernel) rfl⟩
theorem xf_5_78 : xm_okF 5 78 5 3 := ⟨_, _, _, rfl, by decide, xt_in 422 (by decide +kernel) rfl⟩
theorem xf_5_81 : xm_okF 5 81 5 4 := ⟨_, _, _, rfl, by decide, xt_in 423 (by decide +kernel) rfl⟩
theorem xf_5_84 : xm_okF 5 84 5 5 := ⟨_, _, _, rfl, by decide, xt_in 424 (by decide +kernel) rfl⟩
theorem xf_5_13 : xm_okF 5 13 5 6 := ⟨_, _, _, rfl, by decide, xt_in 425 (by decide +kernel) rfl⟩
theorem xf_5_17 : xm_okF 5 17 5 7 := ⟨_, _, _, rfl, by decide, xt_in 426 (by decide +kernel) rfl⟩
theorem xf_5_20 : xm_okF 5 20 5 8 := ⟨_, _, _, rfl, by decide, xt_in 427 (by decide +kernel) rfl⟩
theorem xf_5_23 : xm_okF 5 23 5 9 := ⟨_, _, _, rfl, by decide, xt_in 428 (by decide +kernel) rfl⟩
theorem xf_5_26 : xm_okF 5 26 5 10 := ⟨_, _, _, rfl, by decide, xt_in 429 (by decide +kernel) rfl⟩
theorem xf_5_30 : xm_okF 5 30 5 11 := ⟨_, _, _, rfl, by decide, xt_in 430 (by decide +kernel) rfl⟩
theorem xf_5_33 : xm_okF 5 33 5 12 := ⟨_, _, _, rfl, by decide, xt_in 431 (by decide +kernel) rfl⟩
theorem xf_5_36 : xm_okF 5 36 5 13 := ⟨_, _, _, rfl, by decide, xt_in 432 (by decide +kernel) rfl⟩
theorem xf_5_39 : xm_okF 5 39 5 14 := ⟨_, _, _, rfl, by decide, xt_in 433 (by decide +kernel) rfl⟩
theorem xf_5_42 : xm_okF 5 42 5 15 := ⟨_, _, _, rfl, by decide, xt_in 434 (by decide +kernel) rfl⟩
theorem xf_5_45 : xm_okF 5 45 5 16 := ⟨_, _, _, rfl, by decide, xt_in 435 (by decide +kernel) rfl⟩
theorem xf_5_48 : xm_okF 5 48 5 17 := ⟨_, _, _, rfl, by decide, xt_in 436 (by decide +kernel) rfl⟩
theorem xf_5_51 : xm_okF 5 51 5 18 := ⟨_, _, _, rfl, by decide, xt_in 437 (by decide +kernel) rfl⟩
theorem xf_5_54 : xm_okF 5 54 5 19 := ⟨_, _, _, rfl, by decide, xt_in 438 (by decide +kernel) rfl⟩
theorem xf_5_57 : xm_okF 5 57 5 20 := ⟨_, _, _, rfl, by decide, xt_in 439 (by decide +kernel) rfl⟩
theorem xf_5_60 : xm_okF 5 60 5 21 := ⟨_, _, _, rfl, by decide, xt_in 440 (by decide +kernel) rfl⟩
theorem xf_5_63 : xm_okF 5 63 5 22 := ⟨_, _, _, rfl, by decide, xt_in 441 (by decide +kernel) rfl⟩
theorem xf_5_66 : xm_okF 5 66 5 23 := ⟨_, _, _, rfl, by decide, xt_in 442 (by decide +kernel) rfl⟩
theorem xf_5_69 : xm_okF 5 69 5 24 := ⟨_, _, _, rfl, by decide, xt_in 443 (by decide +kernel) rfl⟩
theorem xf_5_72 : xm_okF 5 72 5 25 := ⟨_, _, _, rfl, by decide, xt_in 444 (by decide +kernel) rfl⟩
theorem xv_6_17 : xm_okV 6 17 m_M_job := ⟨ok_M_job, xt_in 500 (by decide +kernel) rfl, xt_in 501 (by decide +kernel) rfl, xt_in 502 (by decide +kernel) rfl, by decide, _, _, rfl⟩
theorem xv_6_22 : xm_okV 6 22 m_M_needs := ⟨ok_M_needs, xt_in 504 (by decide +kernel) rfl, xt_in 505 (by decide +kernel) rfl, xt_in 506 (by decide +kernel) rfl, by decide, _, _, rfl⟩
theorem xv_5_87 : xm_okV 5 87 m_M_isJob := ⟨ok_M_isJob, xt_in 508 (by decide +kernel) rfl, xt_in 510 (by decide +kernel) rfl, xt_in 11 (by decide +kernel) rfl, by decide, _, _, rfl⟩
theorem xv_6_27 : xm_okV 6 27 m_M_runner := ⟨ok_M_runner, xt_in 512 (by decide +kernel) rfl, xt_in 513 (by decide +kernel) rfl, xt_in 514 (by decide +kernel) rfl, by decide, _, _, rfl⟩
theorem xv_6_32 : xm_okV 6 32 m_M_lost := ⟨ok_M_lost, xt_in 516 (by decide +kernel) rfl, xt_in 517 (by decide +kernel) rfl, xt_in 518 (by decide +kernel) rfl, by decide, _, _, rfl⟩
theorem xv_6_37 : xm_okV 6 37 m_M_trigger := ⟨ok_M_trigger, xt_in 520 (by decide +kernel) rfl, xt_in 521 (by decide +kernel) rfl, xt_in 522 (by decide +kernel) rfl, by decide, _, _, rfl⟩
theorem xv_5_108 : xm_okV 5 108 m_M_isOver := ⟨ok_M_isOver, xt_in 524 (by decide +kernel) rfl, xt_in 526 (by decide +kernel) rfl, xt_in 12 (by decide +kernel) rfl, by decide, _, _, rfl⟩
theorem xs_5_94 : xm_okS 5 94 m_M_isEnd := ⟨ok_M_isEnd, xt_in 528 (by decide +kernel) rfl, xt_in 529 (by decide +kernel) rfl, by decide⟩
theorem xv_5_111 : xm_okV 5 111 m_M_stop := ⟨ok_M_stop, xt_in 531 (by decide +kernel) rfl, xt_in 533 (by decide +kernel) rfl, xt_in 13 (by decide +kernel) rfl, by decide, _, _, rfl⟩
theorem xv_5_104 : xm_okV 5 104 m_M_free := ⟨ok_M_free, xt_in 535 (by decide +kernel) rfl, xt_in 537 (by decide +kernel) rfl, xt_in 14 (by decide +kernel) rfl, by decide, _, _, rfl⟩
theorem xv_5_114 : xm_okV 5 114 m_M_settle := ⟨ok_M_settle, xt_in 539 (by decide +kernel) rfl, xt_in 541 (by decide +kernel) rfl, xt_in 15 (by decide +kernel) rfl, by decide, _, _, rfl⟩
theorem xv_5_100 : xm_okV 5 100 m_M_becomes := ⟨ok_M_becomes, xt_in 543 (by decide +kernel) rfl, xt_in 545 (by decide +kernel) rfl, xt_in 16 (by decide +kernel) rfl, by decide, _, _, rfl⟩
theorem xv_5_97 : xm_okV 5 97 m_M_isApproved := ⟨ok_M_isApproved, xt_in 547 (by decide +kernel) rfl, xt_in 549 (by decide +kernel) rfl, xt_in 17 (by decide +kernel) rfl, by decide, _, _, rfl⟩
theorem xv_6_42 : xm_okV 6 42 m_M_approve := ⟨ok_M_approve, xt_in 551 (by decide +kernel) rfl, xt_in 552 (by decide +kernel) rfl, xt_in 553 (by decide +kernel) rfl, by decide, _, _, rfl⟩
theorem xv_5_120 : xm_okV 5 120 m_M_isThere := ⟨ok_M_isThere, xt_in 555 (by decide +kernel) rfl, xt_in 557 (by decide +kernel) rfl, xt_in 18 (by decide +kernel) rfl, by decide, _, _, rfl⟩
theorem xv_5_117 : xm_okV 5 117 m_M_isRun := ⟨ok_M_isRun, xt_in 559 (by decide +kernel) rfl, xt_in 561 (by decide +kernel) rfl, xt_in 19 (by decide +kernel) rfl, by decide, _, _, rfl⟩
theorem xv_6_46 : xm_okV 6 46 m_M_take := ⟨ok_M_take, xt_in 563 (by decide +kernel) rfl, xt_in 564 (by decide +kernel) rfl, xt_in 565 (by decide +kernel) rfl, by decide, _, _, rfl⟩
theorem xv_5_124 : xm_okV 5 124 m_M_isRunner := ⟨ok_M_isRunner, xt_in 567 (by decide +kernel) rfl, xt_in 569 (by decide +kernel) rfl, xt_in 20 (by decide +kernel) rfl, by decide, _, _, rfl⟩
theorem xv_5_127 : xm_okV 5 127 m_M_busy := ⟨ok_M_busy, xt_in 571 (by decide +kernel) rfl, xt_in 573 (by decide +kernel) rfl, xt_in 21 (by decide +kernel) rfl, by decide, _, _, rfl⟩
theorem xv_6_50 : xm_okV 6 50 m_M_beat := ⟨ok_M_beat, xt_in 575 (by decide +kernel) rfl, xt_in 576 (by decide +kernel) rfl, xt_in 577 (by decide +kernel) rfl, by decide, _, _, rfl⟩
theorem xv_6_55 : xm_okV 6 55 m_M_end := ⟨ok_M_end, xt_in 579 (by decide +kernel) rfl, xt_in 580 (by decide +kernel) rfl, xt_in 581 (by decide +kernel) rfl, by decide, _, _, rfl⟩
theorem xv_5_131 : xm_okV 5 131 m_M_failTry := ⟨ok_M_failTry, xt_in 583 (by decide +kernel) rfl, xt_in 585 (by decide +kernel) rfl, xt_in 22 (by decide +kernel) rfl, by decide, _, _, rfl⟩
theorem xv_6_59 : xm_okV 6 59 m_M_tick := ⟨ok_M_tick, xt_in 587 (by decide +kernel) rfl, xt_in 588 (by decide +kernel) rfl, xt_in 589 (by decide +kernel) rfl, by decide, _, _, rfl⟩
theorem xv_5_137 : xm_okV 5 137 m_M_pass := ⟨ok_M_pass, xt_in 591 (by decide +kernel) rfl, xt_in 593 (by decide +kernel) rfl, xt_in 23 (by decide +kernel) rfl, by decide, _, _, rfl⟩
theorem xv_5_134 : xm_okV 5 134 m_M_runnerOf := ⟨ok_M_runnerOf, xt_in 595 (by decide +kernel) rfl, xt_in 597 (by decide +kernel) rfl, xt_in 24 (by decide +kernel) rfl, by decide, _, _, rfl⟩
theorem xv_6_63 : xm_okV 6 63 m_M_cancel := ⟨ok_M_cancel, xt_in 599 (by decide +kernel) rfl, xt_in 600 (by decide +kernel) rfl, xt_in 601 (by decide +kernel) rfl, by decide, _, _, rfl⟩
theorem xv_6_67 : xm_okV 6 67 m_M_again := ⟨ok_M_again, xt_in 603 (by decide +kernel) rfl, xt_in 604 (by decide +kernel) rfl, xt_in 605 (by decide +kernel) rfl, by decide, _, _, rfl⟩
theorem xv_6_71 : xm_okV 6 71 m_M_state := ⟨ok_M_state, xt_in 607 (by decide +kernel) rfl, xt_in 608 (by decide +kernel) rfl, xt_in 609 (by decide +kernel) rfl, by decide, _, _, rfl⟩
theorem xv_6_75 : xm_okV 6 75 m_M_about := ⟨ok_M_about, xt_in 611 (by decide +kernel) rfl, xt_in 612 (by decide +kernel) rfl, xt_in 613 (by decide +kernel) rfl, by decide, _, _, rfl⟩
theorem xv_6_79 : xm_okV 6 79 m_M_verdict := ⟨ok_M_verdict, xt_in 615 (by decide +kernel) rfl, xt_in 616 (by decide +kernel) rfl, xt_in 617 (by decide +kernel) rfl, by decide, _, _, rfl⟩
theorem xv_6_83 : xm_okV 6 83 m_M_has := ⟨ok_M_has, xt_in 619 (by decide +kernel) rfl, xt_in 620 (by decide +kernel) rfl, xt_in 621 (by decide +kernel) rfl, by decide, _, _, rfl⟩
end
section
/-! decode rows, by program -/
theorem d_S_init_0 : decode (xt_code m_S_init) 0 = .ok (.aload_n 0, 1) := by decide +kernel
theorem d_S_init_1 : decode (xt_code m_S_init) 1 = .ok (.invokespecial 1, 3) := by decide +kernel
theorem d_S_init_4 : decode (xt_code m_S_init) 4 = .ok (.aload_n 0, 1) := by decide +kernel
theorem d_S_init_5 : decode (xt_code m_S_init) 5 = .ok (.bipush 12, 2) := by decide +kernel
theorem d_S_init_7 : decode (xt_code m_S_init) 7 = .ok (.anewarray 9, 3) := by decide +kernel
theorem d_S_init_10 : decode (xt_code m_S_init) 10 = .ok (.putfield 11, 3) := by decide +kernel
theorem d_S_init_13 : decode (xt_code m_S_init) 13 = .ok (.aload_n 0, 1) := by decide +kernel
theorem d_S_init_14 : decode (xt_code m_S_init) 14 = .ok (.bipush 6, 2) := by decide +kernel
theorem d_S_init_16 : decode (xt_code m_S_init) 16 = .ok (.anewarray 15, 3) := by decide +kernel
theorem d_S_init_19 : decode (xt_code m_S_init) 19 = .ok (.putfield 17, 3) := by decide +kernel
theorem d_S_init_22 : decode (xt_code m_S_init) 22 = .ok (.aload_n 0, 1) := by decide +kernel
theorem d_S_init_23 : decode (xt_code m_S_init) 23 = .ok (.bipush 10, 2) := by decide +kernel
theorem d_S_init_25 : decode (xt_code m_S_init) 25 = .ok (.anewarray 21, 3) := by decide +kernel
theorem d_S_init_28 : decode (xt_code m_S_init) 28 = .ok (.putfield 23, 3) := by decide +kernel
theorem d_S_init_31 : decode (xt_code m_S_init) 31 = .ok (.aload_n 0, 1) := by decide +kernel
theorem d_S_init_32 : decode (xt_code m_S_init) 32 = .ok (.iconst 0, 1) := by decide +kernel
theorem d_S_init_33 : decode (xt_code m_S_init) 33 = .ok (.putfield 27, 3) := by decide +kernel
theorem d_S_init_36 : decode (xt_code m_S_init) 36 = .ok (.aload_n 0, 1) := by decide +kernel
theorem d_S_init_37 : decode (xt_code m_S_init) 37 = .ok (.iconst 0, 1) := by decide +kernel
theorem d_S_init_38 : decode (xt_code m_S_init) 38 = .ok (.putfield 31, 3) := by decide +kernel
theorem d_S_init_41 : decode (xt_code m_S_init) 41 = .ok (.aload_n 0, 1) := by decide +kernel
theorem d_S_init_42 : decode (xt_code m_S_init) 42 = .ok (.iconst 0, 1) := by decide +kernel
theorem d_S_init_43 : decode (xt_code m_S_init) 43 = .ok (.putfield 34, 3) := by decide +kernel
theorem d_S_init_46 : decode (xt_code m_S_init) 46 = .ok (.aload_n 0, 1) := by decide +kernel
theorem d_S_init_47 : decode (xt_code m_S_init) 47 = .ok (.iconst 0, 1) := by decide +kernel
theorem d_S_init_48 : decode (xt_code m_S_init) 48 = .ok (.putfield 37, 3) := by decide +kernel
theorem d_S_init_51 : decode (xt_code m_S_init) 51 = .ok (.aload_n 0, 1) := by decide +kernel
theorem d_S_init_52 : decode (xt_code m_S_init) 52 = .ok (.bipush 10, 2) := by decide +kernel
theorem d_S_init_54 : decode (xt_code m_S_init) 54 = .ok (.putfield 40, 3) := by decide +kernel
theorem d_S_init_57 : decode (xt_code m_S_init) 57 = .ok (.return_, 1) := by decide +kernel
theorem d_S_job_0 : decode (xt_code m_S_job) 0 = .ok (.aload_n 0, 1) := by decide +kernel
theorem d_S_job_1 : decode (xt_code m_S_job) 1 = .ok (.getfield 27, 3) := by decide +kernel
theorem d_S_job_4 : decode (xt_code m_S_job) 4 = .ok (.bipush 12, 2) := by decide +kernel
theorem d_S_job_6 : decode (xt_code m_S_job) 6 = .ok (.if_icmp .ge 10, 3) := by decide +kernel
theorem d_S_job_9 : decode (xt_code m_S_job) 9 = .ok (.aload_n 0, 1) := by decide +kernel
theorem d_S_job_10 : decode (xt_code m_S_job) 10 = .ok (.getfield 34, 3) := by decide +kernel
theorem d_S_job_13 : decode (xt_code m_S_job) 13 = .ok (.ifCond .le 5, 3) := by decide +kernel
theorem d_S_job_16 : decode (xt_code m_S_job) 16 = .ok (.iconst (-1), 1) := by decide +kernel
theorem d_S_job_17 : decode (xt_code m_S_job) 17 = .ok (.ireturn, 1) := by decide +kernel
theorem d_S_job_18 : decode (xt_code m_S_job) 18 = .ok (.iload_n 2, 1) := by decide +kernel
theorem d_S_job_19 : decode (xt_code m_S_job) 19 = .ok (.ifCond .lt 12, 3) := by decide +kernel
theorem d_S_job_22 : decode (xt_code m_S_job) 22 = .ok (.iload_n 3, 1) := by decide +kernel
theorem d_S_job_23 : decode (xt_code m_S_job) 23 = .ok (.ifCond .lt 8, 3) := by decide +kernel
theorem d_S_job_26 : decode (xt_code m_S_job) 26 = .ok (.iload_n 3, 1) := by decide +kernel
theorem d_S_job_27 : decode (xt_code m_S_job) 27 = .ok (.iconst 3, 1) := by decide +kernel
theorem d_S_job_28 : decode (xt_code m_S_job) 28 = .ok (.if_icmp .le 5, 3) := by decide +kernel
theorem d_S_job_31 : decode (xt_code m_S_job) 31 = .ok (.iconst (-1), 1) := by decide +kernel
theorem d_S_job_32 : decode (xt_code m_S_job) 32 = .ok (.ireturn, 1) := by decide +kernel
theorem d_S_job_33 : decode (xt_code m_S_job) 33 = .ok (.aload_n 0, 1) := by decide +kernel
theorem d_S_job_34 : decode (xt_code m_S_job) 34 = .ok (.getfield 27, 3) := by decide +kernel
theorem d_S_job_37 : decode (xt_code m_S_job) 37 = .ok (.istore 6, 2) := by decide +kernel
theorem d_S_job_39 : decode (xt_code m_S_job) 39 = .ok (.aload_n 0, 1) := by decide +kernel
theorem d_S_job_40 : decode (xt_code m_S_job) 40 = .ok (.getfield 11, 3) := by decide +kernel
theorem d_S_job_43 : decode (xt_code m_S_job) 43 = .ok (.iload 6, 2) := by decide +kernel
theorem d_S_job_45 : decode (xt_code m_S_job) 45 = .ok (.new 9, 3) := by decide +kernel
theorem d_S_job_48 : decode (xt_code m_S_job) 48 = .ok (.dup, 1) := by decide +kernel
theorem d_S_job_49 : decode (xt_code m_S_job) 49 = .ok (.iload_n 1, 1) := by decide +kernel
theorem d_S_job_50 : decode (xt_code m_S_job) 50 = .ok (.sipush 255, 3) := by decide +kernel
theorem d_S_job_53 : decode (xt_code m_S_job) 53 = .ok (.iand, 1) := by decide +kernel
theorem d_S_job_54 : decode (xt_code m_S_job) 54 = .ok (.iload_n 2, 1) := by decide +kernel
theorem d_S_job_55 : decode (xt_code m_S_job) 55 = .ok (.iload_n 3, 1) := by decide +kernel
theorem d_S_job_56 : decode (xt_code m_S_job) 56 = .ok (.iload 4, 2) := by decide +kernel
theorem d_S_job_58 : decode (xt_code m_S_job) 58 = .ok (.iload 5, 2) := by decide +kernel
theorem d_S_job_60 : decode (xt_code m_S_job) 60 = .ok (.invokespecial 43, 3) := by decide +kernel
theorem d_S_job_63 : decode (xt_code m_S_job) 63 = .ok (.aastore, 1) := by decide +kernel
theorem d_S_job_64 : decode (xt_code m_S_job) 64 = .ok (.aload_n 0, 1) := by decide +kernel
theorem d_S_job_65 : decode (xt_code m_S_job) 65 = .ok (.dup, 1) := by decide +kernel
theorem d_S_job_66 : decode (xt_code m_S_job) 66 = .ok (.getfield 27, 3) := by decide +kernel
theorem d_S_job_69 : decode (xt_code m_S_job) 69 = .ok (.iconst 1, 1) := by decide +kernel
theorem d_S_job_70 : decode (xt_code m_S_job) 70 = .ok (.iadd, 1) := by decide +kernel
theorem d_S_job_71 : decode (xt_code m_S_job) 71 = .ok (.putfield 27, 3) := by decide +kernel
theorem d_S_job_74 : decode (xt_code m_S_job) 74 = .ok (.iload 6, 2) := by decide +kernel
theorem d_S_job_76 : decode (xt_code m_S_job) 76 = .ok (.ireturn, 1) := by decide +kernel
theorem d_Job_init_0 : decode (xt_code m_Job_init) 0 = .ok (.aload_n 0, 1) := by decide +kernel
theorem d_Job_init_1 : decode (xt_code m_Job_init) 1 = .ok (.invokespecial 1, 3) := by decide +kernel
theorem d_Job_init_4 : decode (xt_code m_Job_init) 4 = .ok (.aload_n 0, 1) := by decide +kernel
theorem d_Job_init_5 : decode (xt_code m_Job_init) 5 = .ok (.iconst 0, 1) := by decide +kernel
theorem d_Job_init_6 : decode (xt_code m_Job_init) 6 = .ok (.putfield 7, 3) := by decide +kernel
theorem d_Job_init_9 : decode (xt_code m_Job_init) 9 = .ok (.aload_n 0, 1) := by decide +kernel
theorem d_Job_init_10 : decode (xt_code m_Job_init) 10 = .ok (.iload_n 1, 1) := by decide +kernel
theorem d_Job_init_11 : decode (xt_code m_Job_init) 11 = .ok (.putfield 13, 3) := by decide +kernel
theorem d_Job_init_14 : decode (xt_code m_Job_init) 14 = .ok (.aload_n 0, 1) := by decide +kernel
theorem d_Job_init_15 : decode (xt_code m_Job_init) 15 = .ok (.iload_n 2, 1) := by decide +kernel
theorem d_Job_init_16 : decode (xt_code m_Job_init) 16 = .ok (.putfield 16, 3) := by decide +kernel
theorem d_Job_init_19 : decode (xt_code m_Job_init) 19 = .ok (.aload_n 0, 1) := by decide +kernel
theorem d_Job_init_20 : decode (xt_code m_Job_init) 20 = .ok (.iload_n 3, 1) := by decide +kernel
theorem d_Job_init_21 : decode (xt_code m_Job_init) 21 = .ok (.putfield 19, 3) := by decide +kernel
theorem d_Job_init_24 : decode (xt_code m_Job_init) 24 = .ok (.aload_n 0, 1) := by decide +kernel
theorem d_Job_init_25 : decode (xt_code m_Job_init) 25 = .ok (.iload 4, 2) := by decide +kernel
theorem d_Job_init_27 : decode (xt_code m_Job_init) 27 = .ok (.putfield 22, 3) := by decide +kernel
theorem d_Job_init_30 : decode (xt_code m_Job_init) 30 = .ok (.aload_n 0, 1) := by decide +kernel
theorem d_Job_init_31 : decode (xt_code m_Job_init) 31 = .ok (.iload 5, 2) := by decide +kernel
theorem d_Job_init_33 : decode (xt_code m_Job_init) 33 = .ok (.putfield 26, 3) := by decide +kernel
theorem d_Job_init_36 : decode (xt_code m_Job_init) 36 = .ok (.return_, 1) := by decide +kernel
theorem d_S_needs_0 : decode (xt_code m_S_needs) 0 = .ok (.aload_n 0, 1) := by decide +kernel
theorem d_S_needs_1 : decode (xt_code m_S_needs) 1 = .ok (.getfield 34, 3) := by decide +kernel
theorem d_S_needs_4 : decode (xt_code m_S_needs) 4 = .ok (.ifCond .gt 20, 3) := by decide +kernel
theorem d_S_needs_7 : decode (xt_code m_S_needs) 7 = .ok (.iload_n 2, 1) := by decide +kernel
theorem d_S_needs_8 : decode (xt_code m_S_needs) 8 = .ok (.ifCond .lt 16, 3) := by decide +kernel
theorem d_S_needs_11 : decode (xt_code m_S_needs) 11 = .ok (.iload_n 2, 1) := by decide +kernel
theorem d_S_needs_12 : decode (xt_code m_S_needs) 12 = .ok (.iload_n 1, 1) := by decide +kernel
theorem d_S_needs_13 : decode (xt_code m_S_needs) 13 = .ok (.if_icmp .ge 11, 3) := by decide +kernel
theorem d_S_needs_16 : decode (xt_code m_S_needs) 16 = .ok (.iload_n 1, 1) := by decide +kernel
theorem d_S_needs_17 : decode (xt_code m_S_needs) 17 = .ok (.aload_n 0, 1) := by decide +kernel
theorem d_S_needs_18 : decode (xt_code m_S_needs) 18 = .ok (.getfield 27, 3) := by decide +kernel
theorem d_S_needs_21 : decode (xt_code m_S_needs) 21 = .ok (.if_icmp .lt 5, 3) := by decide +kernel
theorem d_S_needs_24 : decode (xt_code m_S_needs) 24 = .ok (.iconst 0, 1) := by decide +kernel
theorem d_S_needs_25 : decode (xt_code m_S_needs) 25 = .ok (.ireturn, 1) := by decide +kernel
theorem d_S_needs_26 : decode (xt_code m_S_needs) 26 = .ok (.aload_n 0, 1) := by decide +kernel
theorem d_S_needs_27 : decode (xt_code m_S_needs) 27 = .ok (.getfield 11, 3) := by decide +kernel
theorem d_S_needs_30 : decode (xt_code m_S_needs) 30 = .ok (.iload_n 1, 1) := by decide +kernel
theorem d_S_needs_31 : decode (xt_code m_S_needs) 31 = .ok (.aaload, 1) := by decide +kernel
theorem d_S_needs_32 : decode (xt_code m_S_needs) 32 = .ok (.astore_n 3, 1) := by decide +kernel
theorem d_S_needs_33 : decode (xt_code m_S_needs) 33 = .ok (.aload_n 3, 1) := by decide +kernel
theorem d_S_needs_34 : decode (xt_code m_S_needs) 34 = .ok (.iload_n 2, 1) := by decide +kernel
theorem d_S_needs_35 : decode (xt_code m_S_needs) 35 = .ok (.invokevirtual 46, 3) := by decide +kernel
theorem d_S_needs_38 : decode (xt_code m_S_needs) 38 = .ok (.ifCond .eq 5, 3) := by decide +kernel
theorem d_S_needs_41 : decode (xt_code m_S_needs) 41 = .ok (.iconst 0, 1) := by decide +kernel
theorem d_S_needs_42 : decode (xt_code m_S_needs) 42 = .ok (.ireturn, 1) := by decide +kernel
theorem d_S_needs_43 : decode (xt_code m_S_needs) 43 = .ok (.aload_n 3, 1) := by decide +kernel
theorem d_S_needs_44 : decode (xt_code m_S_needs) 44 = .ok (.dup, 1) := by decide +kernel
theorem d_S_needs_45 : decode (xt_code m_S_needs) 45 = .ok (.getfield 50, 3) := by decide +kernel
theorem d_S_needs_48 : decode (xt_code m_S_needs) 48 = .ok (.iconst 1, 1) := by decide +kernel
theorem d_S_needs_49 : decode (xt_code m_S_needs) 49 = .ok (.iload_n 2, 1) := by decide +kernel
theorem d_S_needs_50 : decode (xt_code m_S_needs) 50 = .ok (.ishl, 1) := by decide +kernel
theorem d_S_needs_51 : decode (xt_code m_S_needs) 51 = .ok (.ior, 1) := by decide +kernel
theorem d_S_needs_52 : decode (xt_code m_S_needs) 52 = .ok (.putfield 50, 3) := by decide +kernel
theorem d_S_needs_55 : decode (xt_code m_S_needs) 55 = .ok (.iconst 1, 1) := by decide +kernel
theorem d_S_needs_56 : decode (xt_code m_S_needs) 56 = .ok (.ireturn, 1) := by decide +kernel
theorem d_Job_isNeeding_0 : decode (xt_code m_Job_isNeeding) 0 = .ok (.aload_n 0, 1) := by decide +kernel
theorem d_Job_isNeeding_1 : decode (xt_code m_Job_isNeeding) 1 = .ok (.getfield 7, 3) := by decide +kernel
theorem d_Job_isNeeding_4 : decode (xt_code m_Job_isNeeding) 4 = .ok (.iload_n 1, 1) := by decide +kernel
theorem d_Job_isNeeding_5 : decode (xt_code m_Job_isNeeding) 5 = .ok (.ishr, 1) := by decide +kernel
theorem d_Job_isNeeding_6 : decode (xt_code m_Job_isNeeding) 6 = .ok (.iconst 1, 1) := by decide +kernel
theorem d_Job_isNeeding_7 : decode (xt_code m_Job_isNeeding) 7 = .ok (.iand, 1) := by decide +kernel
theorem d_Job_isNeeding_8 : decode (xt_code m_Job_isNeeding) 8 = .ok (.ifCond .eq 7, 3) := by decide +kernel
theorem d_Job_isNeeding_11 : decode (xt_code m_Job_isNeeding) 11 = .ok (.iconst 1, 1) := by decide +kernel
theorem d_Job_isNeeding_12 : decode (xt_code m_Job_isNeeding) 12 = .ok (.goto 4, 3) := by decide +kernel
theorem d_Job_isNeeding_15 : decode (xt_code m_Job_isNeeding) 15 = .ok (.iconst 0, 1) := by decide +kernel
theorem d_Job_isNeeding_16 : decode (xt_code m_Job_isNeeding) 16 = .ok (.ireturn, 1) := by decide +kernel
theorem d_S_runner_0 : decode (xt_code m_S_runner) 0 = .ok (.aload_n 0, 1) := by decide +kernel
theorem d_S_runner_1 : decode (xt_code m_S_runner) 1 = .ok (.getfield 31, 3) := by decide +kernel
theorem d_S_runner_4 : decode (xt_code m_S_runner) 4 = .ok (.bipush 6, 2) := by decide +kernel
theorem d_S_runner_6 : decode (xt_code m_S_runner) 6 = .ok (.if_icmp .lt 5, 3) := by decide +kernel
theorem d_S_runner_9 : decode (xt_code m_S_runner) 9 = .ok (.iconst (-1), 1) := by decide +kernel
theorem d_S_runner_10 : decode (xt_code m_S_runner) 10 = .ok (.ireturn, 1) := by decide +kernel
theorem d_S_runner_11 : decode (xt_code m_S_runner) 11 = .ok (.aload_n 0, 1) := by decide +kernel
theorem d_S_runner_12 : decode (xt_code m_S_runner) 12 = .ok (.getfield 31, 3) := by decide +kernel
theorem d_S_runner_15 : decode (xt_code m_S_runner) 15 = .ok (.istore_n 2, 1) := by decide +kernel
theorem d_S_runner_16 : decode (xt_code m_S_runner) 16 = .ok (.aload_n 0, 1) := by decide +kernel
theorem d_S_runner_17 : decode (xt_code m_S_runner) 17 = .ok (.getfield 17, 3) := by decide +kernel
theorem d_S_runner_20 : decode (xt_code m_S_runner) 20 = .ok (.iload_n 2, 1) := by decide +kernel
theorem d_S_runner_21 : decode (xt_code m_S_runner) 21 = .ok (.new 15, 3) := by decide +kernel
theorem d_S_runner_24 : decode (xt_code m_S_runner) 24 = .ok (.dup, 1) := by decide +kernel
theorem d_S_runner_25 : decode (xt_code m_S_runner) 25 = .ok (.iload_n 2, 1) := by decide +kernel
theorem d_S_runner_26 : decode (xt_code m_S_runner) 26 = .ok (.iload_n 1, 1) := by decide +kernel
theorem d_S_runner_27 : decode (xt_code m_S_runner) 27 = .ok (.sipush 255, 3) := by decide +kernel
theorem d_S_runner_30 : decode (xt_code m_S_runner) 30 = .ok (.iand, 1) := by decide +kernel
theorem d_S_runner_31 : decode (xt_code m_S_runner) 31 = .ok (.aload_n 0, 1) := by decide +kernel
theorem d_S_runner_32 : decode (xt_code m_S_runner) 32 = .ok (.getfield 37, 3) := by decide +kernel
theorem d_S_runner_35 : decode (xt_code m_S_runner) 35 = .ok (.invokespecial 53, 3) := by decide +kernel
theorem d_S_runner_38 : decode (xt_code m_S_runner) 38 = .ok (.aastore, 1) := by decide +kernel
theorem d_S_runner_39 : decode (xt_code m_S_runner) 39 = .ok (.aload_n 0, 1) := by decide +kernel
theorem d_S_runner_40 : decode (xt_code m_S_runner) 40 = .ok (.dup, 1) := by decide +kernel
theorem d_S_runner_41 : decode (xt_code m_S_runner) 41 = .ok (.getfield 31, 3) := by decide +kernel
theorem d_S_runner_44 : decode (xt_code m_S_runner) 44 = .ok (.iconst 1, 1) := by decide +kernel
theorem d_S_runner_45 : decode (xt_code m_S_runner) 45 = .ok (.iadd, 1) := by decide +kernel
theorem d_S_runner_46 : decode (xt_code m_S_runner) 46 = .ok (.putfield 31, 3) := by decide +kernel
theorem d_S_runner_49 : decode (xt_code m_S_runner) 49 = .ok (.iload_n 2, 1) := by decide +kernel
theorem d_S_runner_50 : decode (xt_code m_S_runner) 50 = .ok (.ireturn, 1) := by decide +kernel
theorem d_Rnr_init_0 : decode (xt_code m_Rnr_init) 0 = .ok (.aload_n 0, 1) := by decide +kernel
theorem d_Rnr_init_1 : decode (xt_code m_Rnr_init) 1 = .ok (.invokespecial 1, 3) := by decide +kernel
theorem d_Rnr_init_4 : decode (xt_code m_Rnr_init) 4 = .ok (.aload_n 0, 1) := by decide +kernel
theorem d_Rnr_init_5 : decode (xt_code m_Rnr_init) 5 = .ok (.aconst_null, 1) := by decide +kernel
theorem d_Rnr_init_6 : decode (xt_code m_Rnr_init) 6 = .ok (.putfield 7, 3) := by decide +kernel
theorem d_Rnr_init_9 : decode (xt_code m_Rnr_init) 9 = .ok (.aload_n 0, 1) := by decide +kernel
theorem d_Rnr_init_10 : decode (xt_code m_Rnr_init) 10 = .ok (.iload_n 1, 1) := by decide +kernel
theorem d_Rnr_init_11 : decode (xt_code m_Rnr_init) 11 = .ok (.putfield 13, 3) := by decide +kernel
theorem d_Rnr_init_14 : decode (xt_code m_Rnr_init) 14 = .ok (.aload_n 0, 1) := by decide +kernel
theorem d_Rnr_init_15 : decode (xt_code m_Rnr_init) 15 = .ok (.iload_n 2, 1) := by decide +kernel
theorem d_Rnr_init_16 : decode (xt_code m_Rnr_init) 16 = .ok (.putfield 17, 3) := by decide +kernel
theorem d_Rnr_init_19 : decode (xt_code m_Rnr_init) 19 = .ok (.aload_n 0, 1) := by decide +kernel
theorem d_Rnr_init_20 : decode (xt_code m_Rnr_init) 20 = .ok (.iload_n 3, 1) := by decide +kernel
theorem d_Rnr_init_21 : decode (xt_code m_Rnr_init) 21 = .ok (.putfield 20, 3) := by decide +kernel
theorem d_Rnr_init_24 : decode (xt_code m_Rnr_init) 24 = .ok (.return_, 1) := by decide +kernel
theorem d_S_lost_0 : decode (xt_code m_S_lost) 0 = .ok (.iload_n 1, 1) := by decide +kernel
theorem d_S_lost_1 : decode (xt_code m_S_lost) 1 = .ok (.iconst 1, 1) := by decide +kernel
theorem d_S_lost_2 : decode (xt_code m_S_lost) 2 = .ok (.if_icmp .lt 9, 3) := by decide +kernel
theorem d_S_lost_5 : decode (xt_code m_S_lost) 5 = .ok (.iload_n 1, 1) := by decide +kernel
theorem d_S_lost_6 : decode (xt_code m_S_lost) 6 = .ok (.bipush 100, 2) := by decide +kernel
theorem d_S_lost_8 : decode (xt_code m_S_lost) 8 = .ok (.if_icmp .le 5, 3) := by decide +kernel
theorem d_S_lost_11 : decode (xt_code m_S_lost) 11 = .ok (.iconst 0, 1) := by decide +kernel
theorem d_S_lost_12 : decode (xt_code m_S_lost) 12 = .ok (.ireturn, 1) := by decide +kernel
theorem d_S_lost_13 : decode (xt_code m_S_lost) 13 = .ok (.aload_n 0, 1) := by decide +kernel
theorem d_S_lost_14 : decode (xt_code m_S_lost) 14 = .ok (.iload_n 1, 1) := by decide +kernel
theorem d_S_lost_15 : decode (xt_code m_S_lost) 15 = .ok (.putfield 40, 3) := by decide +kernel
theorem d_S_lost_18 : decode (xt_code m_S_lost) 18 = .ok (.iconst 1, 1) := by decide +kernel
theorem d_S_lost_19 : decode (xt_code m_S_lost) 19 = .ok (.ireturn, 1) := by decide +kernel
theorem d_S_trigger_0 : decode (xt_code m_S_trigger) 0 = .ok (.aload_n 0, 1) := by decide +kernel
theorem d_S_trigger_1 : decode (xt_code m_S_trigger) 1 = .ok (.getfield 34, 3) := by decide +kernel
theorem d_S_trigger_4 : decode (xt_code m_S_trigger) 4 = .ok (.bipush 10, 2) := by decide +kernel
theorem d_S_trigger_6 : decode (xt_code m_S_trigger) 6 = .ok (.if_icmp .ge 10, 3) := by decide +kernel
theorem d_S_trigger_9 : decode (xt_code m_S_trigger) 9 = .ok (.iload_n 1, 1) := by decide +kernel
theorem d_S_trigger_10 : decode (xt_code m_S_trigger) 10 = .ok (.invokestatic 56, 3) := by decide +kernel
theorem d_S_trigger_13 : decode (xt_code m_S_trigger) 13 = .ok (.ifCond .ne 5, 3) := by decide +kernel
theorem d_S_trigger_16 : decode (xt_code m_S_trigger) 16 = .ok (.iconst (-1), 1) := by decide +kernel
theorem d_S_trigger_17 : decode (xt_code m_S_trigger) 17 = .ok (.ireturn, 1) := by decide +kernel
theorem d_S_trigger_18 : decode (xt_code m_S_trigger) 18 = .ok (.iload_n 2, 1) := by decide +kernel
theorem d_S_trigger_19 : decode (xt_code m_S_trigger) 19 = .ok (.iconst (-1), 1) := by decide +kernel
theorem d_S_trigger_20 : decode (xt_code m_S_trigger) 20 = .ok (.if_icmp .eq 14, 3) := by decide +kernel
theorem d_S_trigger_23 : decode (xt_code m_S_trigger) 23 = .ok (.iload_n 2, 1) := by decide +kernel
theorem d_S_trigger_24 : decode (xt_code m_S_trigger) 24 = .ok (.ifCond .lt 8, 3) := by decide +kernel
theorem d_S_trigger_27 : decode (xt_code m_S_trigger) 27 = .ok (.iload_n 2, 1) := by decide +kernel
theorem d_S_trigger_28 : decode (xt_code m_S_trigger) 28 = .ok (.iconst 4, 1) := by decide +kernel
theorem d_S_trigger_29 : decode (xt_code m_S_trigger) 29 = .ok (.if_icmp .lt 5, 3) := by decide +kernel
theorem d_S_trigger_32 : decode (xt_code m_S_trigger) 32 = .ok (.iconst (-1), 1) := by decide +kernel
theorem d_S_trigger_33 : decode (xt_code m_S_trigger) 33 = .ok (.ireturn, 1) := by decide +kernel
theorem d_S_trigger_34 : decode (xt_code m_S_trigger) 34 = .ok (.iload_n 2, 1) := by decide +kernel
theorem d_S_trigger_35 : decode (xt_code m_S_trigger) 35 = .ok (.iconst (-1), 1) := by decide +kernel
theorem d_S_trigger_36 : decode (xt_code m_S_trigger) 36 = .ok (.if_icmp .eq 8, 3) := by decide +kernel
theorem d_S_trigger_39 : decode (xt_code m_S_trigger) 39 = .ok (.aload_n 0, 1) := by decide +kernel
theorem d_S_trigger_40 : decode (xt_code m_S_trigger) 40 = .ok (.iload_n 2, 1) := by decide +kernel
theorem d_S_trigger_41 : decode (xt_code m_S_trigger) 41 = .ok (.invokevirtual 59, 3) := by decide +kernel
theorem d_S_trigger_44 : decode (xt_code m_S_trigger) 44 = .ok (.aload_n 0, 1) := by decide +kernel
theorem d_S_trigger_45 : decode (xt_code m_S_trigger) 45 = .ok (.getfield 34, 3) := by decide +kernel
theorem d_S_trigger_48 : decode (xt_code m_S_trigger) 48 = .ok (.istore_n 3, 1) := by decide +kernel
theorem d_S_trigger_49 : decode (xt_code m_S_trigger) 49 = .ok (.aload_n 0, 1) := by decide +kernel
theorem d_S_trigger_50 : decode (xt_code m_S_trigger) 50 = .ok (.getfield 23, 3) := by decide +kernel
theorem d_S_trigger_53 : decode (xt_code m_S_trigger) 53 = .ok (.iload_n 3, 1) := by decide +kernel
theorem d_S_trigger_54 : decode (xt_code m_S_trigger) 54 = .ok (.aload_n 0, 1) := by decide +kernel
theorem d_S_trigger_55 : decode (xt_code m_S_trigger) 55 = .ok (.iload_n 3, 1) := by decide +kernel
theorem d_S_trigger_56 : decode (xt_code m_S_trigger) 56 = .ok (.iload_n 1, 1) := by decide +kernel
theorem d_S_trigger_57 : decode (xt_code m_S_trigger) 57 = .ok (.iload_n 2, 1) := by decide +kernel
theorem d_S_trigger_58 : decode (xt_code m_S_trigger) 58 = .ok (.invokevirtual 63, 3) := by decide +kernel
theorem d_S_trigger_61 : decode (xt_code m_S_trigger) 61 = .ok (.aastore, 1) := by decide +kernel
theorem d_S_trigger_62 : decode (xt_code m_S_trigger) 62 = .ok (.aload_n 0, 1) := by decide +kernel
theorem d_S_trigger_63 : decode (xt_code m_S_trigger) 63 = .ok (.dup, 1) := by decide +kernel
theorem d_S_trigger_64 : decode (xt_code m_S_trigger) 64 = .ok (.getfield 34, 3) := by decide +kernel
theorem d_S_trigger_67 : decode (xt_code m_S_trigger) 67 = .ok (.iconst 1, 1) := by decide +kernel
theorem d_S_trigger_68 : decode (xt_code m_S_trigger) 68 = .ok (.iadd, 1) := by decide +kernel
theorem d_S_trigger_69 : decode (xt_code m_S_trigger) 69 = .ok (.putfield 34, 3) := by decide +kernel
theorem d_S_trigger_72 : decode (xt_code m_S_trigger) 72 = .ok (.aload_n 0, 1) := by decide +kernel
theorem d_S_trigger_73 : decode (xt_code m_S_trigger) 73 = .ok (.invokevirtual 67, 3) := by decide +kernel
theorem d_S_trigger_76 : decode (xt_code m_S_trigger) 76 = .ok (.iload_n 3, 1) := by decide +kernel
theorem d_S_trigger_77 : decode (xt_code m_S_trigger) 77 = .ok (.ireturn, 1) := by decide +kernel
theorem d_S_isPerson_0 : decode (xt_code m_S_isPerson) 0 = .ok (.iload_n 0, 1) := by decide +kernel
theorem d_S_isPerson_1 : decode (xt_code m_S_isPerson) 1 = .ok (.ifCond .lt 13, 3) := by decide +kernel
theorem d_S_isPerson_4 : decode (xt_code m_S_isPerson) 4 = .ok (.iload_n 0, 1) := by decide +kernel
theorem d_S_isPerson_5 : decode (xt_code m_S_isPerson) 5 = .ok (.bipush 8, 2) := by decide +kernel
theorem d_S_isPerson_7 : decode (xt_code m_S_isPerson) 7 = .ok (.if_icmp .ge 7, 3) := by decide +kernel
theorem d_S_isPerson_10 : decode (xt_code m_S_isPerson) 10 = .ok (.iconst 1, 1) := by decide +kernel
theorem d_S_isPerson_11 : decode (xt_code m_S_isPerson) 11 = .ok (.goto 4, 3) := by decide +kernel
theorem d_S_isPerson_14 : decode (xt_code m_S_isPerson) 14 = .ok (.iconst 0, 1) := by decide +kernel
theorem d_S_isPerson_15 : decode (xt_code m_S_isPerson) 15 = .ok (.ireturn, 1) := by decide +kernel
theorem d_S_cancelGroup_0 : decode (xt_code m_S_cancelGroup) 0 = .ok (.iconst 0, 1) := by decide +kernel
theorem d_S_cancelGroup_1 : decode (xt_code m_S_cancelGroup) 1 = .ok (.istore_n 2, 1) := by decide +kernel
theorem d_S_cancelGroup_2 : decode (xt_code m_S_cancelGroup) 2 = .ok (.iload_n 2, 1) := by decide +kernel
theorem d_S_cancelGroup_3 : decode (xt_code m_S_cancelGroup) 3 = .ok (.aload_n 0, 1) := by decide +kernel
theorem d_S_cancelGroup_4 : decode (xt_code m_S_cancelGroup) 4 = .ok (.getfield 34, 3) := by decide +kernel
theorem d_S_cancelGroup_7 : decode (xt_code m_S_cancelGroup) 7 = .ok (.if_icmp .ge 43, 3) := by decide +kernel
theorem d_S_cancelGroup_10 : decode (xt_code m_S_cancelGroup) 10 = .ok (.aload_n 0, 1) := by decide +kernel
theorem d_S_cancelGroup_11 : decode (xt_code m_S_cancelGroup) 11 = .ok (.getfield 23, 3) := by decide +kernel
theorem d_S_cancelGroup_14 : decode (xt_code m_S_cancelGroup) 14 = .ok (.iload_n 2, 1) := by decide +kernel
theorem d_S_cancelGroup_15 : decode (xt_code m_S_cancelGroup) 15 = .ok (.aaload, 1) := by decide +kernel
theorem d_S_cancelGroup_16 : decode (xt_code m_S_cancelGroup) 16 = .ok (.getfield 181, 3) := by decide +kernel
theorem d_S_cancelGroup_19 : decode (xt_code m_S_cancelGroup) 19 = .ok (.iload_n 1, 1) := by decide +kernel
theorem d_S_cancelGroup_20 : decode (xt_code m_S_cancelGroup) 20 = .ok (.if_icmp .ne 24, 3) := by decide +kernel
theorem d_S_cancelGroup_23 : decode (xt_code m_S_cancelGroup) 23 = .ok (.aload_n 0, 1) := by decide +kernel
theorem d_S_cancelGroup_24 : decode (xt_code m_S_cancelGroup) 24 = .ok (.getfield 23, 3) := by decide +kernel
theorem d_S_cancelGroup_27 : decode (xt_code m_S_cancelGroup) 27 = .ok (.iload_n 2, 1) := by decide +kernel
theorem d_S_cancelGroup_28 : decode (xt_code m_S_cancelGroup) 28 = .ok (.aaload, 1) := by decide +kernel
theorem d_S_cancelGroup_29 : decode (xt_code m_S_cancelGroup) 29 = .ok (.invokevirtual 140, 3) := by decide +kernel
theorem d_S_cancelGroup_32 : decode (xt_code m_S_cancelGroup) 32 = .ok (.ifCond .ne 12, 3) := by decide +kernel
theorem d_S_cancelGroup_35 : decode (xt_code m_S_cancelGroup) 35 = .ok (.aload_n 0, 1) := by decide +kernel
theorem d_S_cancelGroup_36 : decode (xt_code m_S_cancelGroup) 36 = .ok (.getfield 23, 3) := by decide +kernel
theorem d_S_cancelGroup_39 : decode (xt_code m_S_cancelGroup) 39 = .ok (.iload_n 2, 1) := by decide +kernel
theorem d_S_cancelGroup_40 : decode (xt_code m_S_cancelGroup) 40 = .ok (.aaload, 1) := by decide +kernel
theorem d_S_cancelGroup_41 : decode (xt_code m_S_cancelGroup) 41 = .ok (.invokevirtual 143, 3) := by decide +kernel
theorem d_S_cancelGroup_44 : decode (xt_code m_S_cancelGroup) 44 = .ok (.iinc 2 1, 3) := by decide +kernel
theorem d_S_cancelGroup_47 : decode (xt_code m_S_cancelGroup) 47 = .ok (.goto (-45), 3) := by decide +kernel
theorem d_S_cancelGroup_50 : decode (xt_code m_S_cancelGroup) 50 = .ok (.return_, 1) := by decide +kernel
theorem d_Run_isOver_0 : decode (xt_code m_Run_isOver) 0 = .ok (.iconst 0, 1) := by decide +kernel
theorem d_Run_isOver_1 : decode (xt_code m_Run_isOver) 1 = .ok (.istore_n 1, 1) := by decide +kernel
theorem d_Run_isOver_2 : decode (xt_code m_Run_isOver) 2 = .ok (.iload_n 1, 1) := by decide +kernel
theorem d_Run_isOver_3 : decode (xt_code m_Run_isOver) 3 = .ok (.aload_n 0, 1) := by decide +kernel
theorem d_Run_isOver_4 : decode (xt_code m_Run_isOver) 4 = .ok (.getfield 27, 3) := by decide +kernel
theorem d_Run_isOver_7 : decode (xt_code m_Run_isOver) 7 = .ok (.arraylength, 1) := by decide +kernel
theorem d_Run_isOver_8 : decode (xt_code m_Run_isOver) 8 = .ok (.if_icmp .ge 23, 3) := by decide +kernel
theorem d_Run_isOver_11 : decode (xt_code m_Run_isOver) 11 = .ok (.aload_n 0, 1) := by decide +kernel
theorem d_Run_isOver_12 : decode (xt_code m_Run_isOver) 12 = .ok (.getfield 27, 3) := by decide +kernel
theorem d_Run_isOver_15 : decode (xt_code m_Run_isOver) 15 = .ok (.iload_n 1, 1) := by decide +kernel
theorem d_Run_isOver_16 : decode (xt_code m_Run_isOver) 16 = .ok (.aaload, 1) := by decide +kernel
theorem d_Run_isOver_17 : decode (xt_code m_Run_isOver) 17 = .ok (.invokevirtual 31, 3) := by decide +kernel
theorem d_Run_isOver_20 : decode (xt_code m_Run_isOver) 20 = .ok (.ifCond .ne 5, 3) := by decide +kernel
theorem d_Run_isOver_23 : decode (xt_code m_Run_isOver) 23 = .ok (.iconst 0, 1) := by decide +kernel
theorem d_Run_isOver_24 : decode (xt_code m_Run_isOver) 24 = .ok (.ireturn, 1) := by decide +kernel
theorem d_Run_isOver_25 : decode (xt_code m_Run_isOver) 25 = .ok (.iinc 1 1, 3) := by decide +kernel
theorem d_Run_isOver_28 : decode (xt_code m_Run_isOver) 28 = .ok (.goto (-26), 3) := by decide +kernel
theorem d_Run_isOver_31 : decode (xt_code m_Run_isOver) 31 = .ok (.iconst 1, 1) := by decide +kernel
theorem d_Run_isOver_32 : decode (xt_code m_Run_isOver) 32 = .ok (.ireturn, 1) := by decide +kernel
theorem d_Tsk_isEnded_0 : decode (xt_code m_Tsk_isEnded) 0 = .ok (.aload_n 0, 1) := by decide +kernel
theorem d_Tsk_isEnded_1 : decode (xt_code m_Tsk_isEnded) 1 = .ok (.getfield 9, 3) := by decide +kernel
theorem d_Tsk_isEnded_4 : decode (xt_code m_Tsk_isEnded) 4 = .ok (.iconst 3, 1) := by decide +kernel
theorem d_Tsk_isEnded_5 : decode (xt_code m_Tsk_isEnded) 5 = .ok (.if_icmp .lt 7, 3) := by decide +kernel
theorem d_Tsk_isEnded_8 : decode (xt_code m_Tsk_isEnded) 8 = .ok (.iconst 1, 1) := by decide +kernel
theorem d_Tsk_isEnded_9 : decode (xt_code m_Tsk_isEnded) 9 = .ok (.goto 4, 3) := by decide +kernel
theorem d_Tsk_isEnded_12 : decode (xt_code m_Tsk_isEnded) 12 = .ok (.iconst 0, 1) := by decide +kernel
theorem d_Tsk_isEnded_13 : decode (xt_code m_Tsk_isEnded) 13 = .ok (.ireturn, 1) := by decide +kernel
theorem d_Run_cancelAll_0 : decode (xt_code m_Run_cancelAll) 0 = .ok (.aload_n 0, 1) := by decide +kernel
theorem d_Run_cancelAll_1 : decode (xt_code m_Run_cancelAll) 1 = .ok (.iconst 1, 1) := by decide +kernel
theorem d_Run_cancelAll_2 : decode (xt_code m_Run_cancelAll) 2 = .ok (.putfield 9, 3) := by decide +kernel
theorem d_Run_cancelAll_5 : decode (xt_code m_Run_cancelAll) 5 = .ok (.iconst 0, 1) := by decide +kernel
theorem d_Run_cancelAll_6 : decode (xt_code m_Run_cancelAll) 6 = .ok (.istore_n 1, 1) := by decide +kernel
theorem d_Run_cancelAll_7 : decode (xt_code m_Run_cancelAll) 7 = .ok (.iload_n 1, 1) := by decide +kernel
theorem d_Run_cancelAll_8 : decode (xt_code m_Run_cancelAll) 8 = .ok (.aload_n 0, 1) := by decide +kernel
theorem d_Run_cancelAll_9 : decode (xt_code m_Run_cancelAll) 9 = .ok (.getfield 27, 3) := by decide +kernel
theorem d_Run_cancelAll_12 : decode (xt_code m_Run_cancelAll) 12 = .ok (.arraylength, 1) := by decide +kernel
theorem d_Run_cancelAll_13 : decode (xt_code m_Run_cancelAll) 13 = .ok (.if_icmp .ge 56, 3) := by decide +kernel
theorem d_Run_cancelAll_16 : decode (xt_code m_Run_cancelAll) 16 = .ok (.aload_n 0, 1) := by decide +kernel
theorem d_Run_cancelAll_17 : decode (xt_code m_Run_cancelAll) 17 = .ok (.getfield 27, 3) := by decide +kernel
theorem d_Run_cancelAll_20 : decode (xt_code m_Run_cancelAll) 20 = .ok (.iload_n 1, 1) := by decide +kernel
theorem d_Run_cancelAll_21 : decode (xt_code m_Run_cancelAll) 21 = .ok (.aaload, 1) := by decide +kernel
theorem d_Run_cancelAll_22 : decode (xt_code m_Run_cancelAll) 22 = .ok (.getfield 44, 3) := by decide +kernel
theorem d_Run_cancelAll_25 : decode (xt_code m_Run_cancelAll) 25 = .ok (.getfield 48, 3) := by decide +kernel
theorem d_Run_cancelAll_28 : decode (xt_code m_Run_cancelAll) 28 = .ok (.ifCond .ne 35, 3) := by decide +kernel
theorem d_Run_cancelAll_31 : decode (xt_code m_Run_cancelAll) 31 = .ok (.aload_n 0, 1) := by decide +kernel
theorem d_Run_cancelAll_32 : decode (xt_code m_Run_cancelAll) 32 = .ok (.getfield 27, 3) := by decide +kernel
theorem d_Run_cancelAll_35 : decode (xt_code m_Run_cancelAll) 35 = .ok (.iload_n 1, 1) := by decide +kernel
theorem d_Run_cancelAll_36 : decode (xt_code m_Run_cancelAll) 36 = .ok (.aaload, 1) := by decide +kernel
theorem d_Run_cancelAll_37 : decode (xt_code m_Run_cancelAll) 37 = .ok (.invokevirtual 31, 3) := by decide +kernel
end
section
/-! decode rows, by program -/
theorem d_Run_cancelAll_40 : decode (xt_code m_Run_cancelAll) 40 = .ok (.ifCond .ne 23, 3) := by decide +kernel
theorem d_Run_cancelAll_43 : decode (xt_code m_Run_cancelAll) 43 = .ok (.aload_n 0, 1) := by decide +kernel
theorem d_Run_cancelAll_44 : decode (xt_code m_Run_cancelAll) 44 = .ok (.getfield 27, 3) := by decide +kernel
theorem d_Run_cancelAll_47 : decode (xt_code m_Run_cancelAll) 47 = .ok (.iload_n 1, 1) := by decide +kernel
theorem d_Run_cancelAll_48 : decode (xt_code m_Run_cancelAll) 48 = .ok (.aaload, 1) := by decide +kernel
theorem d_Run_cancelAll_49 : decode (xt_code m_Run_cancelAll) 49 = .ok (.invokevirtual 53, 3) := by decide +kernel
theorem d_Run_cancelAll_52 : decode (xt_code m_Run_cancelAll) 52 = .ok (.aload_n 0, 1) := by decide +kernel
theorem d_Run_cancelAll_53 : decode (xt_code m_Run_cancelAll) 53 = .ok (.getfield 27, 3) := by decide +kernel
theorem d_Run_cancelAll_56 : decode (xt_code m_Run_cancelAll) 56 = .ok (.iload_n 1, 1) := by decide +kernel
theorem d_Run_cancelAll_57 : decode (xt_code m_Run_cancelAll) 57 = .ok (.aaload, 1) := by decide +kernel
theorem d_Run_cancelAll_58 : decode (xt_code m_Run_cancelAll) 58 = .ok (.bipush 6, 2) := by decide +kernel
theorem d_Run_cancelAll_60 : decode (xt_code m_Run_cancelAll) 60 = .ok (.putfield 35, 3) := by decide +kernel
theorem d_Run_cancelAll_63 : decode (xt_code m_Run_cancelAll) 63 = .ok (.iinc 1 1, 3) := by decide +kernel
theorem d_Run_cancelAll_66 : decode (xt_code m_Run_cancelAll) 66 = .ok (.goto (-59), 3) := by decide +kernel
theorem d_Run_cancelAll_69 : decode (xt_code m_Run_cancelAll) 69 = .ok (.return_, 1) := by decide +kernel
theorem d_Tsk_leaveRunner_0 : decode (xt_code m_Tsk_leaveRunner) 0 = .ok (.aload_n 0, 1) := by decide +kernel
theorem d_Tsk_leaveRunner_1 : decode (xt_code m_Tsk_leaveRunner) 1 = .ok (.getfield 15, 3) := by decide +kernel
theorem d_Tsk_leaveRunner_4 : decode (xt_code m_Tsk_leaveRunner) 4 = .ok (.ifnull 16, 3) := by decide +kernel
theorem d_Tsk_leaveRunner_7 : decode (xt_code m_Tsk_leaveRunner) 7 = .ok (.aload_n 0, 1) := by decide +kernel
theorem d_Tsk_leaveRunner_8 : decode (xt_code m_Tsk_leaveRunner) 8 = .ok (.getfield 15, 3) := by decide +kernel
theorem d_Tsk_leaveRunner_11 : decode (xt_code m_Tsk_leaveRunner) 11 = .ok (.aconst_null, 1) := by decide +kernel
theorem d_Tsk_leaveRunner_12 : decode (xt_code m_Tsk_leaveRunner) 12 = .ok (.putfield 72, 3) := by decide +kernel
theorem d_Tsk_leaveRunner_15 : decode (xt_code m_Tsk_leaveRunner) 15 = .ok (.aload_n 0, 1) := by decide +kernel
theorem d_Tsk_leaveRunner_16 : decode (xt_code m_Tsk_leaveRunner) 16 = .ok (.aconst_null, 1) := by decide +kernel
theorem d_Tsk_leaveRunner_17 : decode (xt_code m_Tsk_leaveRunner) 17 = .ok (.putfield 15, 3) := by decide +kernel
theorem d_Tsk_leaveRunner_20 : decode (xt_code m_Tsk_leaveRunner) 20 = .ok (.return_, 1) := by decide +kernel
theorem d_S_newRun_0 : decode (xt_code m_S_newRun) 0 = .ok (.new 21, 3) := by decide +kernel
theorem d_S_newRun_3 : decode (xt_code m_S_newRun) 3 = .ok (.dup, 1) := by decide +kernel
theorem d_S_newRun_4 : decode (xt_code m_S_newRun) 4 = .ok (.iload_n 1, 1) := by decide +kernel
theorem d_S_newRun_5 : decode (xt_code m_S_newRun) 5 = .ok (.iload_n 2, 1) := by decide +kernel
theorem d_S_newRun_6 : decode (xt_code m_S_newRun) 6 = .ok (.iload_n 3, 1) := by decide +kernel
theorem d_S_newRun_7 : decode (xt_code m_S_newRun) 7 = .ok (.aload_n 0, 1) := by decide +kernel
theorem d_S_newRun_8 : decode (xt_code m_S_newRun) 8 = .ok (.getfield 27, 3) := by decide +kernel
theorem d_S_newRun_11 : decode (xt_code m_S_newRun) 11 = .ok (.invokespecial 175, 3) := by decide +kernel
theorem d_S_newRun_14 : decode (xt_code m_S_newRun) 14 = .ok (.astore 4, 2) := by decide +kernel
theorem d_S_newRun_16 : decode (xt_code m_S_newRun) 16 = .ok (.iconst 0, 1) := by decide +kernel
theorem d_S_newRun_17 : decode (xt_code m_S_newRun) 17 = .ok (.istore 5, 2) := by decide +kernel
theorem d_S_newRun_19 : decode (xt_code m_S_newRun) 19 = .ok (.iload 5, 2) := by decide +kernel
theorem d_S_newRun_21 : decode (xt_code m_S_newRun) 21 = .ok (.aload_n 0, 1) := by decide +kernel
theorem d_S_newRun_22 : decode (xt_code m_S_newRun) 22 = .ok (.getfield 27, 3) := by decide +kernel
theorem d_S_newRun_25 : decode (xt_code m_S_newRun) 25 = .ok (.if_icmp .ge 35, 3) := by decide +kernel
theorem d_S_newRun_28 : decode (xt_code m_S_newRun) 28 = .ok (.aload 4, 2) := by decide +kernel
theorem d_S_newRun_30 : decode (xt_code m_S_newRun) 30 = .ok (.getfield 171, 3) := by decide +kernel
theorem d_S_newRun_33 : decode (xt_code m_S_newRun) 33 = .ok (.iload 5, 2) := by decide +kernel
theorem d_S_newRun_35 : decode (xt_code m_S_newRun) 35 = .ok (.new 75, 3) := by decide +kernel
theorem d_S_newRun_38 : decode (xt_code m_S_newRun) 38 = .ok (.dup, 1) := by decide +kernel
theorem d_S_newRun_39 : decode (xt_code m_S_newRun) 39 = .ok (.aload 4, 2) := by decide +kernel
theorem d_S_newRun_41 : decode (xt_code m_S_newRun) 41 = .ok (.iload 5, 2) := by decide +kernel
theorem d_S_newRun_43 : decode (xt_code m_S_newRun) 43 = .ok (.aload_n 0, 1) := by decide +kernel
theorem d_S_newRun_44 : decode (xt_code m_S_newRun) 44 = .ok (.getfield 11, 3) := by decide +kernel
theorem d_S_newRun_47 : decode (xt_code m_S_newRun) 47 = .ok (.iload 5, 2) := by decide +kernel
theorem d_S_newRun_49 : decode (xt_code m_S_newRun) 49 = .ok (.aaload, 1) := by decide +kernel
theorem d_S_newRun_50 : decode (xt_code m_S_newRun) 50 = .ok (.invokespecial 178, 3) := by decide +kernel
theorem d_S_newRun_53 : decode (xt_code m_S_newRun) 53 = .ok (.aastore, 1) := by decide +kernel
theorem d_S_newRun_54 : decode (xt_code m_S_newRun) 54 = .ok (.iinc 5 1, 3) := by decide +kernel
theorem d_S_newRun_57 : decode (xt_code m_S_newRun) 57 = .ok (.goto (-38), 3) := by decide +kernel
theorem d_S_newRun_60 : decode (xt_code m_S_newRun) 60 = .ok (.aload 4, 2) := by decide +kernel
theorem d_S_newRun_62 : decode (xt_code m_S_newRun) 62 = .ok (.areturn, 1) := by decide +kernel
theorem d_Run_init_0 : decode (xt_code m_Run_init) 0 = .ok (.aload_n 0, 1) := by decide +kernel
theorem d_Run_init_1 : decode (xt_code m_Run_init) 1 = .ok (.invokespecial 3, 3) := by decide +kernel
theorem d_Run_init_4 : decode (xt_code m_Run_init) 4 = .ok (.aload_n 0, 1) := by decide +kernel
theorem d_Run_init_5 : decode (xt_code m_Run_init) 5 = .ok (.iconst 0, 1) := by decide +kernel
theorem d_Run_init_6 : decode (xt_code m_Run_init) 6 = .ok (.putfield 9, 3) := by decide +kernel
theorem d_Run_init_9 : decode (xt_code m_Run_init) 9 = .ok (.aload_n 0, 1) := by decide +kernel
theorem d_Run_init_10 : decode (xt_code m_Run_init) 10 = .ok (.iload_n 1, 1) := by decide +kernel
theorem d_Run_init_11 : decode (xt_code m_Run_init) 11 = .ok (.putfield 15, 3) := by decide +kernel
theorem d_Run_init_14 : decode (xt_code m_Run_init) 14 = .ok (.aload_n 0, 1) := by decide +kernel
theorem d_Run_init_15 : decode (xt_code m_Run_init) 15 = .ok (.iload_n 2, 1) := by decide +kernel
theorem d_Run_init_16 : decode (xt_code m_Run_init) 16 = .ok (.putfield 19, 3) := by decide +kernel
theorem d_Run_init_19 : decode (xt_code m_Run_init) 19 = .ok (.aload_n 0, 1) := by decide +kernel
theorem d_Run_init_20 : decode (xt_code m_Run_init) 20 = .ok (.iload_n 3, 1) := by decide +kernel
theorem d_Run_init_21 : decode (xt_code m_Run_init) 21 = .ok (.putfield 22, 3) := by decide +kernel
theorem d_Run_init_24 : decode (xt_code m_Run_init) 24 = .ok (.aload_n 0, 1) := by decide +kernel
theorem d_Run_init_25 : decode (xt_code m_Run_init) 25 = .ok (.iload 4, 2) := by decide +kernel
theorem d_Run_init_27 : decode (xt_code m_Run_init) 27 = .ok (.anewarray 25, 3) := by decide +kernel
theorem d_Run_init_30 : decode (xt_code m_Run_init) 30 = .ok (.putfield 27, 3) := by decide +kernel
theorem d_Run_init_33 : decode (xt_code m_Run_init) 33 = .ok (.return_, 1) := by decide +kernel
theorem d_Tsk_init_0 : decode (xt_code m_Tsk_init) 0 = .ok (.aload_n 0, 1) := by decide +kernel
theorem d_Tsk_init_1 : decode (xt_code m_Tsk_init) 1 = .ok (.invokespecial 3, 3) := by decide +kernel
theorem d_Tsk_init_4 : decode (xt_code m_Tsk_init) 4 = .ok (.aload_n 0, 1) := by decide +kernel
theorem d_Tsk_init_5 : decode (xt_code m_Tsk_init) 5 = .ok (.iconst 0, 1) := by decide +kernel
theorem d_Tsk_init_6 : decode (xt_code m_Tsk_init) 6 = .ok (.putfield 9, 3) := by decide +kernel
theorem d_Tsk_init_9 : decode (xt_code m_Tsk_init) 9 = .ok (.aload_n 0, 1) := by decide +kernel
theorem d_Tsk_init_10 : decode (xt_code m_Tsk_init) 10 = .ok (.aconst_null, 1) := by decide +kernel
theorem d_Tsk_init_11 : decode (xt_code m_Tsk_init) 11 = .ok (.putfield 15, 3) := by decide +kernel
theorem d_Tsk_init_14 : decode (xt_code m_Tsk_init) 14 = .ok (.aload_n 0, 1) := by decide +kernel
theorem d_Tsk_init_15 : decode (xt_code m_Tsk_init) 15 = .ok (.iconst 0, 1) := by decide +kernel
theorem d_Tsk_init_16 : decode (xt_code m_Tsk_init) 16 = .ok (.putfield 19, 3) := by decide +kernel
theorem d_Tsk_init_19 : decode (xt_code m_Tsk_init) 19 = .ok (.aload_n 0, 1) := by decide +kernel
theorem d_Tsk_init_20 : decode (xt_code m_Tsk_init) 20 = .ok (.iconst 0, 1) := by decide +kernel
theorem d_Tsk_init_21 : decode (xt_code m_Tsk_init) 21 = .ok (.putfield 22, 3) := by decide +kernel
theorem d_Tsk_init_24 : decode (xt_code m_Tsk_init) 24 = .ok (.aload_n 0, 1) := by decide +kernel
theorem d_Tsk_init_25 : decode (xt_code m_Tsk_init) 25 = .ok (.iconst 0, 1) := by decide +kernel
theorem d_Tsk_init_26 : decode (xt_code m_Tsk_init) 26 = .ok (.putfield 25, 3) := by decide +kernel
theorem d_Tsk_init_29 : decode (xt_code m_Tsk_init) 29 = .ok (.aload_n 0, 1) := by decide +kernel
theorem d_Tsk_init_30 : decode (xt_code m_Tsk_init) 30 = .ok (.iconst 0, 1) := by decide +kernel
theorem d_Tsk_init_31 : decode (xt_code m_Tsk_init) 31 = .ok (.putfield 28, 3) := by decide +kernel
theorem d_Tsk_init_34 : decode (xt_code m_Tsk_init) 34 = .ok (.aload_n 0, 1) := by decide +kernel
theorem d_Tsk_init_35 : decode (xt_code m_Tsk_init) 35 = .ok (.iconst 0, 1) := by decide +kernel
theorem d_Tsk_init_36 : decode (xt_code m_Tsk_init) 36 = .ok (.putfield 31, 3) := by decide +kernel
theorem d_Tsk_init_39 : decode (xt_code m_Tsk_init) 39 = .ok (.aload_n 0, 1) := by decide +kernel
theorem d_Tsk_init_40 : decode (xt_code m_Tsk_init) 40 = .ok (.iconst 0, 1) := by decide +kernel
theorem d_Tsk_init_41 : decode (xt_code m_Tsk_init) 41 = .ok (.putfield 34, 3) := by decide +kernel
theorem d_Tsk_init_44 : decode (xt_code m_Tsk_init) 44 = .ok (.aload_n 0, 1) := by decide +kernel
theorem d_Tsk_init_45 : decode (xt_code m_Tsk_init) 45 = .ok (.iconst 0, 1) := by decide +kernel
theorem d_Tsk_init_46 : decode (xt_code m_Tsk_init) 46 = .ok (.putfield 37, 3) := by decide +kernel
theorem d_Tsk_init_49 : decode (xt_code m_Tsk_init) 49 = .ok (.aload_n 0, 1) := by decide +kernel
theorem d_Tsk_init_50 : decode (xt_code m_Tsk_init) 50 = .ok (.aload_n 1, 1) := by decide +kernel
theorem d_Tsk_init_51 : decode (xt_code m_Tsk_init) 51 = .ok (.putfield 41, 3) := by decide +kernel
theorem d_Tsk_init_54 : decode (xt_code m_Tsk_init) 54 = .ok (.aload_n 0, 1) := by decide +kernel
theorem d_Tsk_init_55 : decode (xt_code m_Tsk_init) 55 = .ok (.iload_n 2, 1) := by decide +kernel
theorem d_Tsk_init_56 : decode (xt_code m_Tsk_init) 56 = .ok (.putfield 45, 3) := by decide +kernel
theorem d_Tsk_init_59 : decode (xt_code m_Tsk_init) 59 = .ok (.aload_n 0, 1) := by decide +kernel
theorem d_Tsk_init_60 : decode (xt_code m_Tsk_init) 60 = .ok (.aload_n 3, 1) := by decide +kernel
theorem d_Tsk_init_61 : decode (xt_code m_Tsk_init) 61 = .ok (.putfield 48, 3) := by decide +kernel
theorem d_Tsk_init_64 : decode (xt_code m_Tsk_init) 64 = .ok (.return_, 1) := by decide +kernel
theorem d_S_settle_0 : decode (xt_code m_S_settle) 0 = .ok (.iconst 0, 1) := by decide +kernel
theorem d_S_settle_1 : decode (xt_code m_S_settle) 1 = .ok (.istore_n 1, 1) := by decide +kernel
theorem d_S_settle_2 : decode (xt_code m_S_settle) 2 = .ok (.iload_n 1, 1) := by decide +kernel
theorem d_S_settle_3 : decode (xt_code m_S_settle) 3 = .ok (.aload_n 0, 1) := by decide +kernel
theorem d_S_settle_4 : decode (xt_code m_S_settle) 4 = .ok (.getfield 34, 3) := by decide +kernel
theorem d_S_settle_7 : decode (xt_code m_S_settle) 7 = .ok (.if_icmp .ge 18, 3) := by decide +kernel
theorem d_S_settle_10 : decode (xt_code m_S_settle) 10 = .ok (.aload_n 0, 1) := by decide +kernel
theorem d_S_settle_11 : decode (xt_code m_S_settle) 11 = .ok (.getfield 23, 3) := by decide +kernel
theorem d_S_settle_14 : decode (xt_code m_S_settle) 14 = .ok (.iload_n 1, 1) := by decide +kernel
theorem d_S_settle_15 : decode (xt_code m_S_settle) 15 = .ok (.aaload, 1) := by decide +kernel
theorem d_S_settle_16 : decode (xt_code m_S_settle) 16 = .ok (.invokevirtual 184, 3) := by decide +kernel
theorem d_S_settle_19 : decode (xt_code m_S_settle) 19 = .ok (.iinc 1 1, 3) := by decide +kernel
theorem d_S_settle_22 : decode (xt_code m_S_settle) 22 = .ok (.goto (-20), 3) := by decide +kernel
theorem d_S_settle_25 : decode (xt_code m_S_settle) 25 = .ok (.return_, 1) := by decide +kernel
theorem d_Run_settleTasks_0 : decode (xt_code m_Run_settleTasks) 0 = .ok (.iconst 0, 1) := by decide +kernel
theorem d_Run_settleTasks_1 : decode (xt_code m_Run_settleTasks) 1 = .ok (.istore_n 1, 1) := by decide +kernel
theorem d_Run_settleTasks_2 : decode (xt_code m_Run_settleTasks) 2 = .ok (.iload_n 1, 1) := by decide +kernel
theorem d_Run_settleTasks_3 : decode (xt_code m_Run_settleTasks) 3 = .ok (.aload_n 0, 1) := by decide +kernel
theorem d_Run_settleTasks_4 : decode (xt_code m_Run_settleTasks) 4 = .ok (.getfield 27, 3) := by decide +kernel
theorem d_Run_settleTasks_7 : decode (xt_code m_Run_settleTasks) 7 = .ok (.arraylength, 1) := by decide +kernel
theorem d_Run_settleTasks_8 : decode (xt_code m_Run_settleTasks) 8 = .ok (.if_icmp .ge 40, 3) := by decide +kernel
theorem d_Run_settleTasks_11 : decode (xt_code m_Run_settleTasks) 11 = .ok (.aload_n 0, 1) := by decide +kernel
theorem d_Run_settleTasks_12 : decode (xt_code m_Run_settleTasks) 12 = .ok (.getfield 27, 3) := by decide +kernel
theorem d_Run_settleTasks_15 : decode (xt_code m_Run_settleTasks) 15 = .ok (.iload_n 1, 1) := by decide +kernel
theorem d_Run_settleTasks_16 : decode (xt_code m_Run_settleTasks) 16 = .ok (.aaload, 1) := by decide +kernel
theorem d_Run_settleTasks_17 : decode (xt_code m_Run_settleTasks) 17 = .ok (.getfield 35, 3) := by decide +kernel
theorem d_Run_settleTasks_20 : decode (xt_code m_Run_settleTasks) 20 = .ok (.ifCond .ne 22, 3) := by decide +kernel
theorem d_Run_settleTasks_23 : decode (xt_code m_Run_settleTasks) 23 = .ok (.aload_n 0, 1) := by decide +kernel
theorem d_Run_settleTasks_24 : decode (xt_code m_Run_settleTasks) 24 = .ok (.getfield 27, 3) := by decide +kernel
theorem d_Run_settleTasks_27 : decode (xt_code m_Run_settleTasks) 27 = .ok (.iload_n 1, 1) := by decide +kernel
theorem d_Run_settleTasks_28 : decode (xt_code m_Run_settleTasks) 28 = .ok (.aaload, 1) := by decide +kernel
theorem d_Run_settleTasks_29 : decode (xt_code m_Run_settleTasks) 29 = .ok (.aload_n 0, 1) := by decide +kernel
theorem d_Run_settleTasks_30 : decode (xt_code m_Run_settleTasks) 30 = .ok (.aload_n 0, 1) := by decide +kernel
theorem d_Run_settleTasks_31 : decode (xt_code m_Run_settleTasks) 31 = .ok (.getfield 27, 3) := by decide +kernel
theorem d_Run_settleTasks_34 : decode (xt_code m_Run_settleTasks) 34 = .ok (.iload_n 1, 1) := by decide +kernel
theorem d_Run_settleTasks_35 : decode (xt_code m_Run_settleTasks) 35 = .ok (.aaload, 1) := by decide +kernel
theorem d_Run_settleTasks_36 : decode (xt_code m_Run_settleTasks) 36 = .ok (.invokevirtual 59, 3) := by decide +kernel
theorem d_Run_settleTasks_39 : decode (xt_code m_Run_settleTasks) 39 = .ok (.putfield 35, 3) := by decide +kernel
theorem d_Run_settleTasks_42 : decode (xt_code m_Run_settleTasks) 42 = .ok (.iinc 1 1, 3) := by decide +kernel
theorem d_Run_settleTasks_45 : decode (xt_code m_Run_settleTasks) 45 = .ok (.goto (-43), 3) := by decide +kernel
theorem d_Run_settleTasks_48 : decode (xt_code m_Run_settleTasks) 48 = .ok (.return_, 1) := by decide +kernel
theorem d_Run_stateAfterWaiting_0 : decode (xt_code m_Run_stateAfterWaiting) 0 = .ok (.iconst 1, 1) := by decide +kernel
theorem d_Run_stateAfterWaiting_1 : decode (xt_code m_Run_stateAfterWaiting) 1 = .ok (.istore_n 2, 1) := by decide +kernel
theorem d_Run_stateAfterWaiting_2 : decode (xt_code m_Run_stateAfterWaiting) 2 = .ok (.iconst 1, 1) := by decide +kernel
theorem d_Run_stateAfterWaiting_3 : decode (xt_code m_Run_stateAfterWaiting) 3 = .ok (.istore_n 3, 1) := by decide +kernel
theorem d_Run_stateAfterWaiting_4 : decode (xt_code m_Run_stateAfterWaiting) 4 = .ok (.iconst 0, 1) := by decide +kernel
theorem d_Run_stateAfterWaiting_5 : decode (xt_code m_Run_stateAfterWaiting) 5 = .ok (.istore 4, 2) := by decide +kernel
theorem d_Run_stateAfterWaiting_7 : decode (xt_code m_Run_stateAfterWaiting) 7 = .ok (.iload 4, 2) := by decide +kernel
theorem d_Run_stateAfterWaiting_9 : decode (xt_code m_Run_stateAfterWaiting) 9 = .ok (.aload_n 0, 1) := by decide +kernel
theorem d_Run_stateAfterWaiting_10 : decode (xt_code m_Run_stateAfterWaiting) 10 = .ok (.getfield 27, 3) := by decide +kernel
theorem d_Run_stateAfterWaiting_13 : decode (xt_code m_Run_stateAfterWaiting) 13 = .ok (.arraylength, 1) := by decide +kernel
theorem d_Run_stateAfterWaiting_14 : decode (xt_code m_Run_stateAfterWaiting) 14 = .ok (.if_icmp .ge 81, 3) := by decide +kernel
theorem d_Run_stateAfterWaiting_17 : decode (xt_code m_Run_stateAfterWaiting) 17 = .ok (.aload_n 1, 1) := by decide +kernel
theorem d_Run_stateAfterWaiting_18 : decode (xt_code m_Run_stateAfterWaiting) 18 = .ok (.getfield 44, 3) := by decide +kernel
theorem d_Run_stateAfterWaiting_21 : decode (xt_code m_Run_stateAfterWaiting) 21 = .ok (.iload 4, 2) := by decide +kernel
theorem d_Run_stateAfterWaiting_23 : decode (xt_code m_Run_stateAfterWaiting) 23 = .ok (.invokevirtual 63, 3) := by decide +kernel
theorem d_Run_stateAfterWaiting_26 : decode (xt_code m_Run_stateAfterWaiting) 26 = .ok (.ifCond .eq 63, 3) := by decide +kernel
theorem d_Run_stateAfterWaiting_29 : decode (xt_code m_Run_stateAfterWaiting) 29 = .ok (.iload_n 2, 1) := by decide +kernel
theorem d_Run_stateAfterWaiting_30 : decode (xt_code m_Run_stateAfterWaiting) 30 = .ok (.ifCond .eq 20, 3) := by decide +kernel
theorem d_Run_stateAfterWaiting_33 : decode (xt_code m_Run_stateAfterWaiting) 33 = .ok (.aload_n 0, 1) := by decide +kernel
theorem d_Run_stateAfterWaiting_34 : decode (xt_code m_Run_stateAfterWaiting) 34 = .ok (.getfield 27, 3) := by decide +kernel
theorem d_Run_stateAfterWaiting_37 : decode (xt_code m_Run_stateAfterWaiting) 37 = .ok (.iload 4, 2) := by decide +kernel
theorem d_Run_stateAfterWaiting_39 : decode (xt_code m_Run_stateAfterWaiting) 39 = .ok (.aaload, 1) := by decide +kernel
theorem d_Run_stateAfterWaiting_40 : decode (xt_code m_Run_stateAfterWaiting) 40 = .ok (.invokevirtual 31, 3) := by decide +kernel
theorem d_Run_stateAfterWaiting_43 : decode (xt_code m_Run_stateAfterWaiting) 43 = .ok (.ifCond .eq 7, 3) := by decide +kernel
theorem d_Run_stateAfterWaiting_46 : decode (xt_code m_Run_stateAfterWaiting) 46 = .ok (.iconst 1, 1) := by decide +kernel
theorem d_Run_stateAfterWaiting_47 : decode (xt_code m_Run_stateAfterWaiting) 47 = .ok (.goto 4, 3) := by decide +kernel
theorem d_Run_stateAfterWaiting_50 : decode (xt_code m_Run_stateAfterWaiting) 50 = .ok (.iconst 0, 1) := by decide +kernel
theorem d_Run_stateAfterWaiting_51 : decode (xt_code m_Run_stateAfterWaiting) 51 = .ok (.istore_n 2, 1) := by decide +kernel
theorem d_Run_stateAfterWaiting_52 : decode (xt_code m_Run_stateAfterWaiting) 52 = .ok (.iload_n 3, 1) := by decide +kernel
theorem d_Run_stateAfterWaiting_53 : decode (xt_code m_Run_stateAfterWaiting) 53 = .ok (.ifCond .eq 34, 3) := by decide +kernel
theorem d_Run_stateAfterWaiting_56 : decode (xt_code m_Run_stateAfterWaiting) 56 = .ok (.aload_n 0, 1) := by decide +kernel
theorem d_Run_stateAfterWaiting_57 : decode (xt_code m_Run_stateAfterWaiting) 57 = .ok (.getfield 27, 3) := by decide +kernel
theorem d_Run_stateAfterWaiting_60 : decode (xt_code m_Run_stateAfterWaiting) 60 = .ok (.iload 4, 2) := by decide +kernel
theorem d_Run_stateAfterWaiting_62 : decode (xt_code m_Run_stateAfterWaiting) 62 = .ok (.aaload, 1) := by decide +kernel
theorem d_Run_stateAfterWaiting_63 : decode (xt_code m_Run_stateAfterWaiting) 63 = .ok (.getfield 35, 3) := by decide +kernel
theorem d_Run_stateAfterWaiting_66 : decode (xt_code m_Run_stateAfterWaiting) 66 = .ok (.iconst 3, 1) := by decide +kernel
theorem d_Run_stateAfterWaiting_67 : decode (xt_code m_Run_stateAfterWaiting) 67 = .ok (.if_icmp .eq 16, 3) := by decide +kernel
theorem d_Run_stateAfterWaiting_70 : decode (xt_code m_Run_stateAfterWaiting) 70 = .ok (.aload_n 0, 1) := by decide +kernel
theorem d_Run_stateAfterWaiting_71 : decode (xt_code m_Run_stateAfterWaiting) 71 = .ok (.getfield 27, 3) := by decide +kernel
theorem d_Run_stateAfterWaiting_74 : decode (xt_code m_Run_stateAfterWaiting) 74 = .ok (.iload 4, 2) := by decide +kernel
theorem d_Run_stateAfterWaiting_76 : decode (xt_code m_Run_stateAfterWaiting) 76 = .ok (.aaload, 1) := by decide +kernel
theorem d_Run_stateAfterWaiting_77 : decode (xt_code m_Run_stateAfterWaiting) 77 = .ok (.invokevirtual 31, 3) := by decide +kernel
theorem d_Run_stateAfterWaiting_80 : decode (xt_code m_Run_stateAfterWaiting) 80 = .ok (.ifCond .ne 7, 3) := by decide +kernel
theorem d_Run_stateAfterWaiting_83 : decode (xt_code m_Run_stateAfterWaiting) 83 = .ok (.iconst 1, 1) := by decide +kernel
theorem d_Run_stateAfterWaiting_84 : decode (xt_code m_Run_stateAfterWaiting) 84 = .ok (.goto 4, 3) := by decide +kernel
theorem d_Run_stateAfterWaiting_87 : decode (xt_code m_Run_stateAfterWaiting) 87 = .ok (.iconst 0, 1) := by decide +kernel
theorem d_Run_stateAfterWaiting_88 : decode (xt_code m_Run_stateAfterWaiting) 88 = .ok (.istore_n 3, 1) := by decide +kernel
theorem d_Run_stateAfterWaiting_89 : decode (xt_code m_Run_stateAfterWaiting) 89 = .ok (.iinc 4 1, 3) := by decide +kernel
theorem d_Run_stateAfterWaiting_92 : decode (xt_code m_Run_stateAfterWaiting) 92 = .ok (.goto (-85), 3) := by decide +kernel
theorem d_Run_stateAfterWaiting_95 : decode (xt_code m_Run_stateAfterWaiting) 95 = .ok (.iload_n 3, 1) := by decide +kernel
theorem d_Run_stateAfterWaiting_96 : decode (xt_code m_Run_stateAfterWaiting) 96 = .ok (.ifCond .ne 15, 3) := by decide +kernel
theorem d_Run_stateAfterWaiting_99 : decode (xt_code m_Run_stateAfterWaiting) 99 = .ok (.aload_n 1, 1) := by decide +kernel
theorem d_Run_stateAfterWaiting_100 : decode (xt_code m_Run_stateAfterWaiting) 100 = .ok (.getfield 44, 3) := by decide +kernel
theorem d_Run_stateAfterWaiting_103 : decode (xt_code m_Run_stateAfterWaiting) 103 = .ok (.getfield 48, 3) := by decide +kernel
theorem d_Run_stateAfterWaiting_106 : decode (xt_code m_Run_stateAfterWaiting) 106 = .ok (.ifCond .ne 5, 3) := by decide +kernel
theorem d_Run_stateAfterWaiting_109 : decode (xt_code m_Run_stateAfterWaiting) 109 = .ok (.iconst 5, 1) := by decide +kernel
theorem d_Run_stateAfterWaiting_110 : decode (xt_code m_Run_stateAfterWaiting) 110 = .ok (.ireturn, 1) := by decide +kernel
theorem d_Run_stateAfterWaiting_111 : decode (xt_code m_Run_stateAfterWaiting) 111 = .ok (.iload_n 2, 1) := by decide +kernel
theorem d_Run_stateAfterWaiting_112 : decode (xt_code m_Run_stateAfterWaiting) 112 = .ok (.ifCond .eq 14, 3) := by decide +kernel
theorem d_Run_stateAfterWaiting_115 : decode (xt_code m_Run_stateAfterWaiting) 115 = .ok (.aload_n 1, 1) := by decide +kernel
theorem d_Run_stateAfterWaiting_116 : decode (xt_code m_Run_stateAfterWaiting) 116 = .ok (.invokevirtual 67, 3) := by decide +kernel
theorem d_Run_stateAfterWaiting_119 : decode (xt_code m_Run_stateAfterWaiting) 119 = .ok (.ifCond .eq 7, 3) := by decide +kernel
theorem d_Run_stateAfterWaiting_122 : decode (xt_code m_Run_stateAfterWaiting) 122 = .ok (.iconst 1, 1) := by decide +kernel
theorem d_Run_stateAfterWaiting_123 : decode (xt_code m_Run_stateAfterWaiting) 123 = .ok (.goto 4, 3) := by decide +kernel
theorem d_Run_stateAfterWaiting_126 : decode (xt_code m_Run_stateAfterWaiting) 126 = .ok (.iconst 0, 1) := by decide +kernel
theorem d_Run_stateAfterWaiting_127 : decode (xt_code m_Run_stateAfterWaiting) 127 = .ok (.ireturn, 1) := by decide +kernel
theorem d_Tsk_isFreeToRun_0 : decode (xt_code m_Tsk_isFreeToRun) 0 = .ok (.aload_n 0, 1) := by decide +kernel
theorem d_Tsk_isFreeToRun_1 : decode (xt_code m_Tsk_isFreeToRun) 1 = .ok (.getfield 48, 3) := by decide +kernel
theorem d_Tsk_isFreeToRun_4 : decode (xt_code m_Tsk_isFreeToRun) 4 = .ok (.getfield 55, 3) := by decide +kernel
theorem d_Tsk_isFreeToRun_7 : decode (xt_code m_Tsk_isFreeToRun) 7 = .ok (.ifCond .eq 14, 3) := by decide +kernel
theorem d_Tsk_isFreeToRun_10 : decode (xt_code m_Tsk_isFreeToRun) 10 = .ok (.aload_n 0, 1) := by decide +kernel
theorem d_Tsk_isFreeToRun_11 : decode (xt_code m_Tsk_isFreeToRun) 11 = .ok (.getfield 22, 3) := by decide +kernel
theorem d_Tsk_isFreeToRun_14 : decode (xt_code m_Tsk_isFreeToRun) 14 = .ok (.invokestatic 60, 3) := by decide +kernel
theorem d_Tsk_isFreeToRun_17 : decode (xt_code m_Tsk_isFreeToRun) 17 = .ok (.iconst 2, 1) := by decide +kernel
theorem d_Tsk_isFreeToRun_18 : decode (xt_code m_Tsk_isFreeToRun) 18 = .ok (.if_icmp .lt 7, 3) := by decide +kernel
theorem d_Tsk_isFreeToRun_21 : decode (xt_code m_Tsk_isFreeToRun) 21 = .ok (.iconst 1, 1) := by decide +kernel
theorem d_Tsk_isFreeToRun_22 : decode (xt_code m_Tsk_isFreeToRun) 22 = .ok (.goto 4, 3) := by decide +kernel
theorem d_Tsk_isFreeToRun_25 : decode (xt_code m_Tsk_isFreeToRun) 25 = .ok (.iconst 0, 1) := by decide +kernel
theorem d_Tsk_isFreeToRun_26 : decode (xt_code m_Tsk_isFreeToRun) 26 = .ok (.ireturn, 1) := by decide +kernel
theorem d_I_bitCount_0 : decode (xt_code m_I_bitCount) 0 = .ok (.iload_n 0, 1) := by decide +kernel
theorem d_I_bitCount_1 : decode (xt_code m_I_bitCount) 1 = .ok (.iload_n 0, 1) := by decide +kernel
theorem d_I_bitCount_2 : decode (xt_code m_I_bitCount) 2 = .ok (.iconst 1, 1) := by decide +kernel
theorem d_I_bitCount_3 : decode (xt_code m_I_bitCount) 3 = .ok (.iushr, 1) := by decide +kernel
theorem d_I_bitCount_4 : decode (xt_code m_I_bitCount) 4 = .ok (.ldc_w 265, 3) := by decide +kernel
theorem d_I_bitCount_7 : decode (xt_code m_I_bitCount) 7 = .ok (.iand, 1) := by decide +kernel
theorem d_I_bitCount_8 : decode (xt_code m_I_bitCount) 8 = .ok (.isub, 1) := by decide +kernel
theorem d_I_bitCount_9 : decode (xt_code m_I_bitCount) 9 = .ok (.istore_n 0, 1) := by decide +kernel
theorem d_I_bitCount_10 : decode (xt_code m_I_bitCount) 10 = .ok (.iload_n 0, 1) := by decide +kernel
theorem d_I_bitCount_11 : decode (xt_code m_I_bitCount) 11 = .ok (.ldc_w 266, 3) := by decide +kernel
theorem d_I_bitCount_14 : decode (xt_code m_I_bitCount) 14 = .ok (.iand, 1) := by decide +kernel
theorem d_I_bitCount_15 : decode (xt_code m_I_bitCount) 15 = .ok (.iload_n 0, 1) := by decide +kernel
theorem d_I_bitCount_16 : decode (xt_code m_I_bitCount) 16 = .ok (.iconst 2, 1) := by decide +kernel
theorem d_I_bitCount_17 : decode (xt_code m_I_bitCount) 17 = .ok (.iushr, 1) := by decide +kernel
theorem d_I_bitCount_18 : decode (xt_code m_I_bitCount) 18 = .ok (.ldc_w 266, 3) := by decide +kernel
theorem d_I_bitCount_21 : decode (xt_code m_I_bitCount) 21 = .ok (.iand, 1) := by decide +kernel
theorem d_I_bitCount_22 : decode (xt_code m_I_bitCount) 22 = .ok (.iadd, 1) := by decide +kernel
theorem d_I_bitCount_23 : decode (xt_code m_I_bitCount) 23 = .ok (.istore_n 0, 1) := by decide +kernel
theorem d_I_bitCount_24 : decode (xt_code m_I_bitCount) 24 = .ok (.iload_n 0, 1) := by decide +kernel
theorem d_I_bitCount_25 : decode (xt_code m_I_bitCount) 25 = .ok (.iload_n 0, 1) := by decide +kernel
theorem d_I_bitCount_26 : decode (xt_code m_I_bitCount) 26 = .ok (.iconst 4, 1) := by decide +kernel
theorem d_I_bitCount_27 : decode (xt_code m_I_bitCount) 27 = .ok (.iushr, 1) := by decide +kernel
theorem d_I_bitCount_28 : decode (xt_code m_I_bitCount) 28 = .ok (.iadd, 1) := by decide +kernel
theorem d_I_bitCount_29 : decode (xt_code m_I_bitCount) 29 = .ok (.ldc_w 267, 3) := by decide +kernel
theorem d_I_bitCount_32 : decode (xt_code m_I_bitCount) 32 = .ok (.iand, 1) := by decide +kernel
theorem d_I_bitCount_33 : decode (xt_code m_I_bitCount) 33 = .ok (.istore_n 0, 1) := by decide +kernel
theorem d_I_bitCount_34 : decode (xt_code m_I_bitCount) 34 = .ok (.iload_n 0, 1) := by decide +kernel
theorem d_I_bitCount_35 : decode (xt_code m_I_bitCount) 35 = .ok (.iload_n 0, 1) := by decide +kernel
theorem d_I_bitCount_36 : decode (xt_code m_I_bitCount) 36 = .ok (.bipush 8, 2) := by decide +kernel
theorem d_I_bitCount_38 : decode (xt_code m_I_bitCount) 38 = .ok (.iushr, 1) := by decide +kernel
theorem d_I_bitCount_39 : decode (xt_code m_I_bitCount) 39 = .ok (.iadd, 1) := by decide +kernel
theorem d_I_bitCount_40 : decode (xt_code m_I_bitCount) 40 = .ok (.istore_n 0, 1) := by decide +kernel
theorem d_I_bitCount_41 : decode (xt_code m_I_bitCount) 41 = .ok (.iload_n 0, 1) := by decide +kernel
theorem d_I_bitCount_42 : decode (xt_code m_I_bitCount) 42 = .ok (.iload_n 0, 1) := by decide +kernel
theorem d_I_bitCount_43 : decode (xt_code m_I_bitCount) 43 = .ok (.bipush 16, 2) := by decide +kernel
theorem d_I_bitCount_45 : decode (xt_code m_I_bitCount) 45 = .ok (.iushr, 1) := by decide +kernel
theorem d_I_bitCount_46 : decode (xt_code m_I_bitCount) 46 = .ok (.iadd, 1) := by decide +kernel
theorem d_I_bitCount_47 : decode (xt_code m_I_bitCount) 47 = .ok (.istore_n 0, 1) := by decide +kernel
theorem d_I_bitCount_48 : decode (xt_code m_I_bitCount) 48 = .ok (.iload_n 0, 1) := by decide +kernel
theorem d_I_bitCount_49 : decode (xt_code m_I_bitCount) 49 = .ok (.bipush 63, 2) := by decide +kernel
theorem d_I_bitCount_51 : decode (xt_code m_I_bitCount) 51 = .ok (.iand, 1) := by decide +kernel
theorem d_I_bitCount_52 : decode (xt_code m_I_bitCount) 52 = .ok (.ireturn, 1) := by decide +kernel
theorem d_S_approve_0 : decode (xt_code m_S_approve) 0 = .ok (.aload_n 0, 1) := by decide +kernel
theorem d_S_approve_1 : decode (xt_code m_S_approve) 1 = .ok (.iload_n 1, 1) := by decide +kernel
theorem d_S_approve_2 : decode (xt_code m_S_approve) 2 = .ok (.iload_n 2, 1) := by decide +kernel
theorem d_S_approve_3 : decode (xt_code m_S_approve) 3 = .ok (.invokevirtual 70, 3) := by decide +kernel
theorem d_S_approve_6 : decode (xt_code m_S_approve) 6 = .ok (.astore 4, 2) := by decide +kernel
theorem d_S_approve_8 : decode (xt_code m_S_approve) 8 = .ok (.aload 4, 2) := by decide +kernel
theorem d_S_approve_10 : decode (xt_code m_S_approve) 10 = .ok (.ifnull 29, 3) := by decide +kernel
theorem d_S_approve_13 : decode (xt_code m_S_approve) 13 = .ok (.iload_n 3, 1) := by decide +kernel
theorem d_S_approve_14 : decode (xt_code m_S_approve) 14 = .ok (.invokestatic 56, 3) := by decide +kernel
theorem d_S_approve_17 : decode (xt_code m_S_approve) 17 = .ok (.ifCond .eq 22, 3) := by decide +kernel
theorem d_S_approve_20 : decode (xt_code m_S_approve) 20 = .ok (.aload 4, 2) := by decide +kernel
theorem d_S_approve_22 : decode (xt_code m_S_approve) 22 = .ok (.getfield 74, 3) := by decide +kernel
theorem d_S_approve_25 : decode (xt_code m_S_approve) 25 = .ok (.getfield 80, 3) := by decide +kernel
theorem d_S_approve_28 : decode (xt_code m_S_approve) 28 = .ok (.ifCond .eq 11, 3) := by decide +kernel
theorem d_S_approve_31 : decode (xt_code m_S_approve) 31 = .ok (.aload 4, 2) := by decide +kernel
theorem d_S_approve_33 : decode (xt_code m_S_approve) 33 = .ok (.invokevirtual 84, 3) := by decide +kernel
theorem d_S_approve_36 : decode (xt_code m_S_approve) 36 = .ok (.ifCond .eq 5, 3) := by decide +kernel
theorem d_S_approve_39 : decode (xt_code m_S_approve) 39 = .ok (.iconst (-1), 1) := by decide +kernel
theorem d_S_approve_40 : decode (xt_code m_S_approve) 40 = .ok (.ireturn, 1) := by decide +kernel
theorem d_S_approve_41 : decode (xt_code m_S_approve) 41 = .ok (.iload_n 3, 1) := by decide +kernel
theorem d_S_approve_42 : decode (xt_code m_S_approve) 42 = .ok (.aload 4, 2) := by decide +kernel
theorem d_S_approve_44 : decode (xt_code m_S_approve) 44 = .ok (.getfield 88, 3) := by decide +kernel
theorem d_S_approve_47 : decode (xt_code m_S_approve) 47 = .ok (.getfield 92, 3) := by decide +kernel
theorem d_S_approve_50 : decode (xt_code m_S_approve) 50 = .ok (.if_icmp .ne 6, 3) := by decide +kernel
theorem d_S_approve_53 : decode (xt_code m_S_approve) 53 = .ok (.bipush (-2), 2) := by decide +kernel
theorem d_S_approve_55 : decode (xt_code m_S_approve) 55 = .ok (.ireturn, 1) := by decide +kernel
theorem d_S_approve_56 : decode (xt_code m_S_approve) 56 = .ok (.iconst 1, 1) := by decide +kernel
theorem d_S_approve_57 : decode (xt_code m_S_approve) 57 = .ok (.iload_n 3, 1) := by decide +kernel
theorem d_S_approve_58 : decode (xt_code m_S_approve) 58 = .ok (.ishl, 1) := by decide +kernel
theorem d_S_approve_59 : decode (xt_code m_S_approve) 59 = .ok (.istore 5, 2) := by decide +kernel
theorem d_S_approve_61 : decode (xt_code m_S_approve) 61 = .ok (.aload 4, 2) := by decide +kernel
theorem d_S_approve_63 : decode (xt_code m_S_approve) 63 = .ok (.getfield 95, 3) := by decide +kernel
theorem d_S_approve_66 : decode (xt_code m_S_approve) 66 = .ok (.iload 5, 2) := by decide +kernel
theorem d_S_approve_68 : decode (xt_code m_S_approve) 68 = .ok (.iand, 1) := by decide +kernel
theorem d_S_approve_69 : decode (xt_code m_S_approve) 69 = .ok (.ifCond .eq 5, 3) := by decide +kernel
theorem d_S_approve_72 : decode (xt_code m_S_approve) 72 = .ok (.iconst 0, 1) := by decide +kernel
theorem d_S_approve_73 : decode (xt_code m_S_approve) 73 = .ok (.ireturn, 1) := by decide +kernel
theorem d_S_approve_74 : decode (xt_code m_S_approve) 74 = .ok (.aload 4, 2) := by decide +kernel
theorem d_S_approve_76 : decode (xt_code m_S_approve) 76 = .ok (.dup, 1) := by decide +kernel
theorem d_S_approve_77 : decode (xt_code m_S_approve) 77 = .ok (.getfield 95, 3) := by decide +kernel
theorem d_S_approve_80 : decode (xt_code m_S_approve) 80 = .ok (.iload 5, 2) := by decide +kernel
theorem d_S_approve_82 : decode (xt_code m_S_approve) 82 = .ok (.ior, 1) := by decide +kernel
theorem d_S_approve_83 : decode (xt_code m_S_approve) 83 = .ok (.putfield 95, 3) := by decide +kernel
theorem d_S_approve_86 : decode (xt_code m_S_approve) 86 = .ok (.aload_n 0, 1) := by decide +kernel
theorem d_S_approve_87 : decode (xt_code m_S_approve) 87 = .ok (.invokevirtual 67, 3) := by decide +kernel
theorem d_S_approve_90 : decode (xt_code m_S_approve) 90 = .ok (.iconst 1, 1) := by decide +kernel
theorem d_S_approve_91 : decode (xt_code m_S_approve) 91 = .ok (.ireturn, 1) := by decide +kernel
theorem d_S_findTask_0 : decode (xt_code m_S_findTask) 0 = .ok (.aload_n 0, 1) := by decide +kernel
theorem d_S_findTask_1 : decode (xt_code m_S_findTask) 1 = .ok (.iload_n 1, 1) := by decide +kernel
theorem d_S_findTask_2 : decode (xt_code m_S_findTask) 2 = .ok (.invokevirtual 133, 3) := by decide +kernel
theorem d_S_findTask_5 : decode (xt_code m_S_findTask) 5 = .ok (.astore_n 3, 1) := by decide +kernel
theorem d_S_findTask_6 : decode (xt_code m_S_findTask) 6 = .ok (.aload_n 3, 1) := by decide +kernel
end
section
/-! decode rows, by program -/
theorem d_S_findTask_7 : decode (xt_code m_S_findTask) 7 = .ok (.ifnull 16, 3) := by decide +kernel
theorem d_S_findTask_10 : decode (xt_code m_S_findTask) 10 = .ok (.iload_n 2, 1) := by decide +kernel
theorem d_S_findTask_11 : decode (xt_code m_S_findTask) 11 = .ok (.ifCond .lt 12, 3) := by decide +kernel
theorem d_S_findTask_14 : decode (xt_code m_S_findTask) 14 = .ok (.iload_n 2, 1) := by decide +kernel
theorem d_S_findTask_15 : decode (xt_code m_S_findTask) 15 = .ok (.aload_n 3, 1) := by decide +kernel
theorem d_S_findTask_16 : decode (xt_code m_S_findTask) 16 = .ok (.getfield 171, 3) := by decide +kernel
theorem d_S_findTask_19 : decode (xt_code m_S_findTask) 19 = .ok (.arraylength, 1) := by decide +kernel
theorem d_S_findTask_20 : decode (xt_code m_S_findTask) 20 = .ok (.if_icmp .lt 5, 3) := by decide +kernel
theorem d_S_findTask_23 : decode (xt_code m_S_findTask) 23 = .ok (.aconst_null, 1) := by decide +kernel
theorem d_S_findTask_24 : decode (xt_code m_S_findTask) 24 = .ok (.areturn, 1) := by decide +kernel
theorem d_S_findTask_25 : decode (xt_code m_S_findTask) 25 = .ok (.aload_n 3, 1) := by decide +kernel
theorem d_S_findTask_26 : decode (xt_code m_S_findTask) 26 = .ok (.getfield 171, 3) := by decide +kernel
theorem d_S_findTask_29 : decode (xt_code m_S_findTask) 29 = .ok (.iload_n 2, 1) := by decide +kernel
theorem d_S_findTask_30 : decode (xt_code m_S_findTask) 30 = .ok (.aaload, 1) := by decide +kernel
theorem d_S_findTask_31 : decode (xt_code m_S_findTask) 31 = .ok (.areturn, 1) := by decide +kernel
theorem d_S_findRun_0 : decode (xt_code m_S_findRun) 0 = .ok (.iload_n 1, 1) := by decide +kernel
theorem d_S_findRun_1 : decode (xt_code m_S_findRun) 1 = .ok (.ifCond .lt 20, 3) := by decide +kernel
theorem d_S_findRun_4 : decode (xt_code m_S_findRun) 4 = .ok (.iload_n 1, 1) := by decide +kernel
theorem d_S_findRun_5 : decode (xt_code m_S_findRun) 5 = .ok (.aload_n 0, 1) := by decide +kernel
theorem d_S_findRun_6 : decode (xt_code m_S_findRun) 6 = .ok (.getfield 34, 3) := by decide +kernel
theorem d_S_findRun_9 : decode (xt_code m_S_findRun) 9 = .ok (.if_icmp .ge 12, 3) := by decide +kernel
theorem d_S_findRun_12 : decode (xt_code m_S_findRun) 12 = .ok (.aload_n 0, 1) := by decide +kernel
theorem d_S_findRun_13 : decode (xt_code m_S_findRun) 13 = .ok (.getfield 23, 3) := by decide +kernel
theorem d_S_findRun_16 : decode (xt_code m_S_findRun) 16 = .ok (.iload_n 1, 1) := by decide +kernel
theorem d_S_findRun_17 : decode (xt_code m_S_findRun) 17 = .ok (.aaload, 1) := by decide +kernel
theorem d_S_findRun_18 : decode (xt_code m_S_findRun) 18 = .ok (.goto 4, 3) := by decide +kernel
theorem d_S_findRun_21 : decode (xt_code m_S_findRun) 21 = .ok (.aconst_null, 1) := by decide +kernel
theorem d_S_findRun_22 : decode (xt_code m_S_findRun) 22 = .ok (.areturn, 1) := by decide +kernel
theorem d_S_take_0 : decode (xt_code m_S_take) 0 = .ok (.aload_n 0, 1) := by decide +kernel
theorem d_S_take_1 : decode (xt_code m_S_take) 1 = .ok (.iload_n 1, 1) := by decide +kernel
theorem d_S_take_2 : decode (xt_code m_S_take) 2 = .ok (.invokevirtual 98, 3) := by decide +kernel
theorem d_S_take_5 : decode (xt_code m_S_take) 5 = .ok (.astore_n 2, 1) := by decide +kernel
theorem d_S_take_6 : decode (xt_code m_S_take) 6 = .ok (.aload_n 2, 1) := by decide +kernel
theorem d_S_take_7 : decode (xt_code m_S_take) 7 = .ok (.ifnull 10, 3) := by decide +kernel
theorem d_S_take_10 : decode (xt_code m_S_take) 10 = .ok (.aload_n 2, 1) := by decide +kernel
theorem d_S_take_11 : decode (xt_code m_S_take) 11 = .ok (.getfield 102, 3) := by decide +kernel
theorem d_S_take_14 : decode (xt_code m_S_take) 14 = .ok (.ifnull 5, 3) := by decide +kernel
theorem d_S_take_17 : decode (xt_code m_S_take) 17 = .ok (.iconst (-1), 1) := by decide +kernel
theorem d_S_take_18 : decode (xt_code m_S_take) 18 = .ok (.ireturn, 1) := by decide +kernel
theorem d_S_take_19 : decode (xt_code m_S_take) 19 = .ok (.aload_n 0, 1) := by decide +kernel
theorem d_S_take_20 : decode (xt_code m_S_take) 20 = .ok (.aload_n 2, 1) := by decide +kernel
theorem d_S_take_21 : decode (xt_code m_S_take) 21 = .ok (.invokevirtual 106, 3) := by decide +kernel
theorem d_S_take_24 : decode (xt_code m_S_take) 24 = .ok (.astore_n 3, 1) := by decide +kernel
theorem d_S_take_25 : decode (xt_code m_S_take) 25 = .ok (.aload_n 3, 1) := by decide +kernel
theorem d_S_take_26 : decode (xt_code m_S_take) 26 = .ok (.ifnonnull 5, 3) := by decide +kernel
theorem d_S_take_29 : decode (xt_code m_S_take) 29 = .ok (.iconst (-1), 1) := by decide +kernel
theorem d_S_take_30 : decode (xt_code m_S_take) 30 = .ok (.ireturn, 1) := by decide +kernel
theorem d_S_take_31 : decode (xt_code m_S_take) 31 = .ok (.aload_n 3, 1) := by decide +kernel
theorem d_S_take_32 : decode (xt_code m_S_take) 32 = .ok (.aload_n 2, 1) := by decide +kernel
theorem d_S_take_33 : decode (xt_code m_S_take) 33 = .ok (.aload_n 0, 1) := by decide +kernel
theorem d_S_take_34 : decode (xt_code m_S_take) 34 = .ok (.getfield 37, 3) := by decide +kernel
theorem d_S_take_37 : decode (xt_code m_S_take) 37 = .ok (.invokevirtual 110, 3) := by decide +kernel
theorem d_S_take_40 : decode (xt_code m_S_take) 40 = .ok (.aload_n 3, 1) := by decide +kernel
theorem d_S_take_41 : decode (xt_code m_S_take) 41 = .ok (.invokevirtual 114, 3) := by decide +kernel
theorem d_S_take_44 : decode (xt_code m_S_take) 44 = .ok (.ireturn, 1) := by decide +kernel
theorem d_S_findRunner_0 : decode (xt_code m_S_findRunner) 0 = .ok (.iload_n 1, 1) := by decide +kernel
theorem d_S_findRunner_1 : decode (xt_code m_S_findRunner) 1 = .ok (.ifCond .lt 20, 3) := by decide +kernel
theorem d_S_findRunner_4 : decode (xt_code m_S_findRunner) 4 = .ok (.iload_n 1, 1) := by decide +kernel
theorem d_S_findRunner_5 : decode (xt_code m_S_findRunner) 5 = .ok (.aload_n 0, 1) := by decide +kernel
theorem d_S_findRunner_6 : decode (xt_code m_S_findRunner) 6 = .ok (.getfield 31, 3) := by decide +kernel
theorem d_S_findRunner_9 : decode (xt_code m_S_findRunner) 9 = .ok (.if_icmp .ge 12, 3) := by decide +kernel
theorem d_S_findRunner_12 : decode (xt_code m_S_findRunner) 12 = .ok (.aload_n 0, 1) := by decide +kernel
theorem d_S_findRunner_13 : decode (xt_code m_S_findRunner) 13 = .ok (.getfield 17, 3) := by decide +kernel
theorem d_S_findRunner_16 : decode (xt_code m_S_findRunner) 16 = .ok (.iload_n 1, 1) := by decide +kernel
theorem d_S_findRunner_17 : decode (xt_code m_S_findRunner) 17 = .ok (.aaload, 1) := by decide +kernel
theorem d_S_findRunner_18 : decode (xt_code m_S_findRunner) 18 = .ok (.goto 4, 3) := by decide +kernel
theorem d_S_findRunner_21 : decode (xt_code m_S_findRunner) 21 = .ok (.aconst_null, 1) := by decide +kernel
theorem d_S_findRunner_22 : decode (xt_code m_S_findRunner) 22 = .ok (.areturn, 1) := by decide +kernel
theorem d_S_nextFor_0 : decode (xt_code m_S_nextFor) 0 = .ok (.aconst_null, 1) := by decide +kernel
theorem d_S_nextFor_1 : decode (xt_code m_S_nextFor) 1 = .ok (.astore_n 2, 1) := by decide +kernel
theorem d_S_nextFor_2 : decode (xt_code m_S_nextFor) 2 = .ok (.iconst 0, 1) := by decide +kernel
theorem d_S_nextFor_3 : decode (xt_code m_S_nextFor) 3 = .ok (.istore_n 3, 1) := by decide +kernel
theorem d_S_nextFor_4 : decode (xt_code m_S_nextFor) 4 = .ok (.iload_n 3, 1) := by decide +kernel
theorem d_S_nextFor_5 : decode (xt_code m_S_nextFor) 5 = .ok (.aload_n 0, 1) := by decide +kernel
theorem d_S_nextFor_6 : decode (xt_code m_S_nextFor) 6 = .ok (.getfield 34, 3) := by decide +kernel
theorem d_S_nextFor_9 : decode (xt_code m_S_nextFor) 9 = .ok (.if_icmp .ge 55, 3) := by decide +kernel
theorem d_S_nextFor_12 : decode (xt_code m_S_nextFor) 12 = .ok (.aload_n 0, 1) := by decide +kernel
theorem d_S_nextFor_13 : decode (xt_code m_S_nextFor) 13 = .ok (.getfield 23, 3) := by decide +kernel
theorem d_S_nextFor_16 : decode (xt_code m_S_nextFor) 16 = .ok (.iload_n 3, 1) := by decide +kernel
theorem d_S_nextFor_17 : decode (xt_code m_S_nextFor) 17 = .ok (.aaload, 1) := by decide +kernel
theorem d_S_nextFor_18 : decode (xt_code m_S_nextFor) 18 = .ok (.aload_n 1, 1) := by decide +kernel
theorem d_S_nextFor_19 : decode (xt_code m_S_nextFor) 19 = .ok (.invokevirtual 187, 3) := by decide +kernel
theorem d_S_nextFor_22 : decode (xt_code m_S_nextFor) 22 = .ok (.astore 4, 2) := by decide +kernel
theorem d_S_nextFor_24 : decode (xt_code m_S_nextFor) 24 = .ok (.aload 4, 2) := by decide +kernel
theorem d_S_nextFor_26 : decode (xt_code m_S_nextFor) 26 = .ok (.ifnull 32, 3) := by decide +kernel
theorem d_S_nextFor_29 : decode (xt_code m_S_nextFor) 29 = .ok (.aload_n 2, 1) := by decide +kernel
theorem d_S_nextFor_30 : decode (xt_code m_S_nextFor) 30 = .ok (.ifnull 25, 3) := by decide +kernel
theorem d_S_nextFor_33 : decode (xt_code m_S_nextFor) 33 = .ok (.aload_n 0, 1) := by decide +kernel
theorem d_S_nextFor_34 : decode (xt_code m_S_nextFor) 34 = .ok (.aload 4, 2) := by decide +kernel
theorem d_S_nextFor_36 : decode (xt_code m_S_nextFor) 36 = .ok (.getfield 88, 3) := by decide +kernel
theorem d_S_nextFor_39 : decode (xt_code m_S_nextFor) 39 = .ok (.getfield 92, 3) := by decide +kernel
theorem d_S_nextFor_42 : decode (xt_code m_S_nextFor) 42 = .ok (.aload_n 2, 1) := by decide +kernel
theorem d_S_nextFor_43 : decode (xt_code m_S_nextFor) 43 = .ok (.getfield 88, 3) := by decide +kernel
theorem d_S_nextFor_46 : decode (xt_code m_S_nextFor) 46 = .ok (.getfield 92, 3) := by decide +kernel
theorem d_S_nextFor_49 : decode (xt_code m_S_nextFor) 49 = .ok (.invokevirtual 190, 3) := by decide +kernel
theorem d_S_nextFor_52 : decode (xt_code m_S_nextFor) 52 = .ok (.ifCond .eq 6, 3) := by decide +kernel
theorem d_S_nextFor_55 : decode (xt_code m_S_nextFor) 55 = .ok (.aload 4, 2) := by decide +kernel
theorem d_S_nextFor_57 : decode (xt_code m_S_nextFor) 57 = .ok (.astore_n 2, 1) := by decide +kernel
theorem d_S_nextFor_58 : decode (xt_code m_S_nextFor) 58 = .ok (.iinc 3 1, 3) := by decide +kernel
theorem d_S_nextFor_61 : decode (xt_code m_S_nextFor) 61 = .ok (.goto (-57), 3) := by decide +kernel
theorem d_S_nextFor_64 : decode (xt_code m_S_nextFor) 64 = .ok (.aload_n 2, 1) := by decide +kernel
theorem d_S_nextFor_65 : decode (xt_code m_S_nextFor) 65 = .ok (.areturn, 1) := by decide +kernel
theorem d_Run_firstReadyFor_0 : decode (xt_code m_Run_firstReadyFor) 0 = .ok (.iconst 0, 1) := by decide +kernel
theorem d_Run_firstReadyFor_1 : decode (xt_code m_Run_firstReadyFor) 1 = .ok (.istore_n 2, 1) := by decide +kernel
theorem d_Run_firstReadyFor_2 : decode (xt_code m_Run_firstReadyFor) 2 = .ok (.iload_n 2, 1) := by decide +kernel
theorem d_Run_firstReadyFor_3 : decode (xt_code m_Run_firstReadyFor) 3 = .ok (.aload_n 0, 1) := by decide +kernel
theorem d_Run_firstReadyFor_4 : decode (xt_code m_Run_firstReadyFor) 4 = .ok (.getfield 27, 3) := by decide +kernel
theorem d_Run_firstReadyFor_7 : decode (xt_code m_Run_firstReadyFor) 7 = .ok (.arraylength, 1) := by decide +kernel
theorem d_Run_firstReadyFor_8 : decode (xt_code m_Run_firstReadyFor) 8 = .ok (.if_icmp .ge 51, 3) := by decide +kernel
theorem d_Run_firstReadyFor_11 : decode (xt_code m_Run_firstReadyFor) 11 = .ok (.aload_n 0, 1) := by decide +kernel
theorem d_Run_firstReadyFor_12 : decode (xt_code m_Run_firstReadyFor) 12 = .ok (.getfield 27, 3) := by decide +kernel
theorem d_Run_firstReadyFor_15 : decode (xt_code m_Run_firstReadyFor) 15 = .ok (.iload_n 2, 1) := by decide +kernel
theorem d_Run_firstReadyFor_16 : decode (xt_code m_Run_firstReadyFor) 16 = .ok (.aaload, 1) := by decide +kernel
theorem d_Run_firstReadyFor_17 : decode (xt_code m_Run_firstReadyFor) 17 = .ok (.getfield 35, 3) := by decide +kernel
theorem d_Run_firstReadyFor_20 : decode (xt_code m_Run_firstReadyFor) 20 = .ok (.iconst 1, 1) := by decide +kernel
theorem d_Run_firstReadyFor_21 : decode (xt_code m_Run_firstReadyFor) 21 = .ok (.if_icmp .ne 32, 3) := by decide +kernel
theorem d_Run_firstReadyFor_24 : decode (xt_code m_Run_firstReadyFor) 24 = .ok (.aload_n 0, 1) := by decide +kernel
theorem d_Run_firstReadyFor_25 : decode (xt_code m_Run_firstReadyFor) 25 = .ok (.getfield 27, 3) := by decide +kernel
theorem d_Run_firstReadyFor_28 : decode (xt_code m_Run_firstReadyFor) 28 = .ok (.iload_n 2, 1) := by decide +kernel
theorem d_Run_firstReadyFor_29 : decode (xt_code m_Run_firstReadyFor) 29 = .ok (.aaload, 1) := by decide +kernel
theorem d_Run_firstReadyFor_30 : decode (xt_code m_Run_firstReadyFor) 30 = .ok (.getfield 44, 3) := by decide +kernel
theorem d_Run_firstReadyFor_33 : decode (xt_code m_Run_firstReadyFor) 33 = .ok (.getfield 70, 3) := by decide +kernel
theorem d_Run_firstReadyFor_36 : decode (xt_code m_Run_firstReadyFor) 36 = .ok (.aload_n 1, 1) := by decide +kernel
theorem d_Run_firstReadyFor_37 : decode (xt_code m_Run_firstReadyFor) 37 = .ok (.getfield 73, 3) := by decide +kernel
theorem d_Run_firstReadyFor_40 : decode (xt_code m_Run_firstReadyFor) 40 = .ok (.iconst (-1), 1) := by decide +kernel
theorem d_Run_firstReadyFor_41 : decode (xt_code m_Run_firstReadyFor) 41 = .ok (.ixor, 1) := by decide +kernel
theorem d_Run_firstReadyFor_42 : decode (xt_code m_Run_firstReadyFor) 42 = .ok (.iand, 1) := by decide +kernel
theorem d_Run_firstReadyFor_43 : decode (xt_code m_Run_firstReadyFor) 43 = .ok (.ifCond .ne 10, 3) := by decide +kernel
theorem d_Run_firstReadyFor_46 : decode (xt_code m_Run_firstReadyFor) 46 = .ok (.aload_n 0, 1) := by decide +kernel
theorem d_Run_firstReadyFor_47 : decode (xt_code m_Run_firstReadyFor) 47 = .ok (.getfield 27, 3) := by decide +kernel
theorem d_Run_firstReadyFor_50 : decode (xt_code m_Run_firstReadyFor) 50 = .ok (.iload_n 2, 1) := by decide +kernel
theorem d_Run_firstReadyFor_51 : decode (xt_code m_Run_firstReadyFor) 51 = .ok (.aaload, 1) := by decide +kernel
theorem d_Run_firstReadyFor_52 : decode (xt_code m_Run_firstReadyFor) 52 = .ok (.areturn, 1) := by decide +kernel
theorem d_Run_firstReadyFor_53 : decode (xt_code m_Run_firstReadyFor) 53 = .ok (.iinc 2 1, 3) := by decide +kernel
theorem d_Run_firstReadyFor_56 : decode (xt_code m_Run_firstReadyFor) 56 = .ok (.goto (-54), 3) := by decide +kernel
theorem d_Run_firstReadyFor_59 : decode (xt_code m_Run_firstReadyFor) 59 = .ok (.aconst_null, 1) := by decide +kernel
theorem d_Run_firstReadyFor_60 : decode (xt_code m_Run_firstReadyFor) 60 = .ok (.areturn, 1) := by decide +kernel
theorem d_S_isServedBefore_0 : decode (xt_code m_S_isServedBefore) 0 = .ok (.aload_n 0, 1) := by decide +kernel
theorem d_S_isServedBefore_1 : decode (xt_code m_S_isServedBefore) 1 = .ok (.iload_n 1, 1) := by decide +kernel
theorem d_S_isServedBefore_2 : decode (xt_code m_S_isServedBefore) 2 = .ok (.invokevirtual 194, 3) := by decide +kernel
theorem d_S_isServedBefore_5 : decode (xt_code m_S_isServedBefore) 5 = .ok (.istore_n 3, 1) := by decide +kernel
theorem d_S_isServedBefore_6 : decode (xt_code m_S_isServedBefore) 6 = .ok (.aload_n 0, 1) := by decide +kernel
theorem d_S_isServedBefore_7 : decode (xt_code m_S_isServedBefore) 7 = .ok (.iload_n 2, 1) := by decide +kernel
theorem d_S_isServedBefore_8 : decode (xt_code m_S_isServedBefore) 8 = .ok (.invokevirtual 194, 3) := by decide +kernel
theorem d_S_isServedBefore_11 : decode (xt_code m_S_isServedBefore) 11 = .ok (.istore 4, 2) := by decide +kernel
theorem d_S_isServedBefore_13 : decode (xt_code m_S_isServedBefore) 13 = .ok (.iload_n 3, 1) := by decide +kernel
theorem d_S_isServedBefore_14 : decode (xt_code m_S_isServedBefore) 14 = .ok (.iload 4, 2) := by decide +kernel
theorem d_S_isServedBefore_16 : decode (xt_code m_S_isServedBefore) 16 = .ok (.if_icmp .lt 14, 3) := by decide +kernel
theorem d_S_isServedBefore_19 : decode (xt_code m_S_isServedBefore) 19 = .ok (.iload_n 3, 1) := by decide +kernel
theorem d_S_isServedBefore_20 : decode (xt_code m_S_isServedBefore) 20 = .ok (.iload 4, 2) := by decide +kernel
theorem d_S_isServedBefore_22 : decode (xt_code m_S_isServedBefore) 22 = .ok (.if_icmp .ne 12, 3) := by decide +kernel
theorem d_S_isServedBefore_25 : decode (xt_code m_S_isServedBefore) 25 = .ok (.iload_n 1, 1) := by decide +kernel
theorem d_S_isServedBefore_26 : decode (xt_code m_S_isServedBefore) 26 = .ok (.iload_n 2, 1) := by decide +kernel
theorem d_S_isServedBefore_27 : decode (xt_code m_S_isServedBefore) 27 = .ok (.if_icmp .ge 7, 3) := by decide +kernel
theorem d_S_isServedBefore_30 : decode (xt_code m_S_isServedBefore) 30 = .ok (.iconst 1, 1) := by decide +kernel
theorem d_S_isServedBefore_31 : decode (xt_code m_S_isServedBefore) 31 = .ok (.goto 4, 3) := by decide +kernel
theorem d_S_isServedBefore_34 : decode (xt_code m_S_isServedBefore) 34 = .ok (.iconst 0, 1) := by decide +kernel
theorem d_S_isServedBefore_35 : decode (xt_code m_S_isServedBefore) 35 = .ok (.ireturn, 1) := by decide +kernel
theorem d_S_runningOf_0 : decode (xt_code m_S_runningOf) 0 = .ok (.iconst 0, 1) := by decide +kernel
theorem d_S_runningOf_1 : decode (xt_code m_S_runningOf) 1 = .ok (.istore_n 2, 1) := by decide +kernel
theorem d_S_runningOf_2 : decode (xt_code m_S_runningOf) 2 = .ok (.iconst 0, 1) := by decide +kernel
theorem d_S_runningOf_3 : decode (xt_code m_S_runningOf) 3 = .ok (.istore_n 3, 1) := by decide +kernel
theorem d_S_runningOf_4 : decode (xt_code m_S_runningOf) 4 = .ok (.iload_n 3, 1) := by decide +kernel
theorem d_S_runningOf_5 : decode (xt_code m_S_runningOf) 5 = .ok (.aload_n 0, 1) := by decide +kernel
theorem d_S_runningOf_6 : decode (xt_code m_S_runningOf) 6 = .ok (.getfield 31, 3) := by decide +kernel
theorem d_S_runningOf_9 : decode (xt_code m_S_runningOf) 9 = .ok (.if_icmp .ge 40, 3) := by decide +kernel
theorem d_S_runningOf_12 : decode (xt_code m_S_runningOf) 12 = .ok (.aload_n 0, 1) := by decide +kernel
theorem d_S_runningOf_13 : decode (xt_code m_S_runningOf) 13 = .ok (.getfield 17, 3) := by decide +kernel
theorem d_S_runningOf_16 : decode (xt_code m_S_runningOf) 16 = .ok (.iload_n 3, 1) := by decide +kernel
theorem d_S_runningOf_17 : decode (xt_code m_S_runningOf) 17 = .ok (.aaload, 1) := by decide +kernel
theorem d_S_runningOf_18 : decode (xt_code m_S_runningOf) 18 = .ok (.getfield 102, 3) := by decide +kernel
theorem d_S_runningOf_21 : decode (xt_code m_S_runningOf) 21 = .ok (.astore 4, 2) := by decide +kernel
theorem d_S_runningOf_23 : decode (xt_code m_S_runningOf) 23 = .ok (.aload 4, 2) := by decide +kernel
theorem d_S_runningOf_25 : decode (xt_code m_S_runningOf) 25 = .ok (.ifnull 18, 3) := by decide +kernel
theorem d_S_runningOf_28 : decode (xt_code m_S_runningOf) 28 = .ok (.aload 4, 2) := by decide +kernel
theorem d_S_runningOf_30 : decode (xt_code m_S_runningOf) 30 = .ok (.getfield 88, 3) := by decide +kernel
theorem d_S_runningOf_33 : decode (xt_code m_S_runningOf) 33 = .ok (.getfield 92, 3) := by decide +kernel
theorem d_S_runningOf_36 : decode (xt_code m_S_runningOf) 36 = .ok (.iload_n 1, 1) := by decide +kernel
theorem d_S_runningOf_37 : decode (xt_code m_S_runningOf) 37 = .ok (.if_icmp .ne 6, 3) := by decide +kernel
theorem d_S_runningOf_40 : decode (xt_code m_S_runningOf) 40 = .ok (.iinc 2 1, 3) := by decide +kernel
theorem d_S_runningOf_43 : decode (xt_code m_S_runningOf) 43 = .ok (.iinc 3 1, 3) := by decide +kernel
theorem d_S_runningOf_46 : decode (xt_code m_S_runningOf) 46 = .ok (.goto (-42), 3) := by decide +kernel
theorem d_S_runningOf_49 : decode (xt_code m_S_runningOf) 49 = .ok (.iload_n 2, 1) := by decide +kernel
theorem d_S_runningOf_50 : decode (xt_code m_S_runningOf) 50 = .ok (.ireturn, 1) := by decide +kernel
theorem d_Tsk_startOn_0 : decode (xt_code m_Tsk_startOn) 0 = .ok (.aload_n 0, 1) := by decide +kernel
theorem d_Tsk_startOn_1 : decode (xt_code m_Tsk_startOn) 1 = .ok (.iconst 2, 1) := by decide +kernel
theorem d_Tsk_startOn_2 : decode (xt_code m_Tsk_startOn) 2 = .ok (.putfield 9, 3) := by decide +kernel
theorem d_Tsk_startOn_5 : decode (xt_code m_Tsk_startOn) 5 = .ok (.aload_n 0, 1) := by decide +kernel
theorem d_Tsk_startOn_6 : decode (xt_code m_Tsk_startOn) 6 = .ok (.iload_n 2, 1) := by decide +kernel
theorem d_Tsk_startOn_7 : decode (xt_code m_Tsk_startOn) 7 = .ok (.putfield 19, 3) := by decide +kernel
theorem d_Tsk_startOn_10 : decode (xt_code m_Tsk_startOn) 10 = .ok (.aload_n 0, 1) := by decide +kernel
theorem d_Tsk_startOn_11 : decode (xt_code m_Tsk_startOn) 11 = .ok (.dup, 1) := by decide +kernel
theorem d_Tsk_startOn_12 : decode (xt_code m_Tsk_startOn) 12 = .ok (.getfield 28, 3) := by decide +kernel
theorem d_Tsk_startOn_15 : decode (xt_code m_Tsk_startOn) 15 = .ok (.iconst 1, 1) := by decide +kernel
theorem d_Tsk_startOn_16 : decode (xt_code m_Tsk_startOn) 16 = .ok (.iadd, 1) := by decide +kernel
theorem d_Tsk_startOn_17 : decode (xt_code m_Tsk_startOn) 17 = .ok (.putfield 28, 3) := by decide +kernel
theorem d_Tsk_startOn_20 : decode (xt_code m_Tsk_startOn) 20 = .ok (.aload_n 0, 1) := by decide +kernel
theorem d_Tsk_startOn_21 : decode (xt_code m_Tsk_startOn) 21 = .ok (.aload_n 1, 1) := by decide +kernel
theorem d_Tsk_startOn_22 : decode (xt_code m_Tsk_startOn) 22 = .ok (.putfield 15, 3) := by decide +kernel
theorem d_Tsk_startOn_25 : decode (xt_code m_Tsk_startOn) 25 = .ok (.aload_n 1, 1) := by decide +kernel
theorem d_Tsk_startOn_26 : decode (xt_code m_Tsk_startOn) 26 = .ok (.aload_n 0, 1) := by decide +kernel
theorem d_Tsk_startOn_27 : decode (xt_code m_Tsk_startOn) 27 = .ok (.putfield 72, 3) := by decide +kernel
theorem d_Tsk_startOn_30 : decode (xt_code m_Tsk_startOn) 30 = .ok (.aload_n 1, 1) := by decide +kernel
theorem d_Tsk_startOn_31 : decode (xt_code m_Tsk_startOn) 31 = .ok (.iload_n 2, 1) := by decide +kernel
theorem d_Tsk_startOn_32 : decode (xt_code m_Tsk_startOn) 32 = .ok (.putfield 76, 3) := by decide +kernel
theorem d_Tsk_startOn_35 : decode (xt_code m_Tsk_startOn) 35 = .ok (.return_, 1) := by decide +kernel
theorem d_Tsk_place_0 : decode (xt_code m_Tsk_place) 0 = .ok (.bipush 12, 2) := by decide +kernel
theorem d_Tsk_place_2 : decode (xt_code m_Tsk_place) 2 = .ok (.aload_n 0, 1) := by decide +kernel
theorem d_Tsk_place_3 : decode (xt_code m_Tsk_place) 3 = .ok (.getfield 41, 3) := by decide +kernel
theorem d_Tsk_place_6 : decode (xt_code m_Tsk_place) 6 = .ok (.getfield 52, 3) := by decide +kernel
theorem d_Tsk_place_9 : decode (xt_code m_Tsk_place) 9 = .ok (.imul, 1) := by decide +kernel
theorem d_Tsk_place_10 : decode (xt_code m_Tsk_place) 10 = .ok (.aload_n 0, 1) := by decide +kernel
theorem d_Tsk_place_11 : decode (xt_code m_Tsk_place) 11 = .ok (.getfield 45, 3) := by decide +kernel
theorem d_Tsk_place_14 : decode (xt_code m_Tsk_place) 14 = .ok (.iadd, 1) := by decide +kernel
theorem d_Tsk_place_15 : decode (xt_code m_Tsk_place) 15 = .ok (.ireturn, 1) := by decide +kernel
theorem d_S_beat_0 : decode (xt_code m_S_beat) 0 = .ok (.aload_n 0, 1) := by decide +kernel
theorem d_S_beat_1 : decode (xt_code m_S_beat) 1 = .ok (.iload_n 1, 1) := by decide +kernel
theorem d_S_beat_2 : decode (xt_code m_S_beat) 2 = .ok (.invokevirtual 98, 3) := by decide +kernel
theorem d_S_beat_5 : decode (xt_code m_S_beat) 5 = .ok (.astore_n 2, 1) := by decide +kernel
theorem d_S_beat_6 : decode (xt_code m_S_beat) 6 = .ok (.aload_n 2, 1) := by decide +kernel
theorem d_S_beat_7 : decode (xt_code m_S_beat) 7 = .ok (.ifnull 10, 3) := by decide +kernel
theorem d_S_beat_10 : decode (xt_code m_S_beat) 10 = .ok (.aload_n 2, 1) := by decide +kernel
theorem d_S_beat_11 : decode (xt_code m_S_beat) 11 = .ok (.getfield 102, 3) := by decide +kernel
theorem d_S_beat_14 : decode (xt_code m_S_beat) 14 = .ok (.ifnonnull 5, 3) := by decide +kernel
theorem d_S_beat_17 : decode (xt_code m_S_beat) 17 = .ok (.iconst 0, 1) := by decide +kernel
theorem d_S_beat_18 : decode (xt_code m_S_beat) 18 = .ok (.ireturn, 1) := by decide +kernel
theorem d_S_beat_19 : decode (xt_code m_S_beat) 19 = .ok (.aload_n 2, 1) := by decide +kernel
theorem d_S_beat_20 : decode (xt_code m_S_beat) 20 = .ok (.aload_n 0, 1) := by decide +kernel
theorem d_S_beat_21 : decode (xt_code m_S_beat) 21 = .ok (.getfield 37, 3) := by decide +kernel
theorem d_S_beat_24 : decode (xt_code m_S_beat) 24 = .ok (.putfield 118, 3) := by decide +kernel
theorem d_S_beat_27 : decode (xt_code m_S_beat) 27 = .ok (.iconst 1, 1) := by decide +kernel
theorem d_S_beat_28 : decode (xt_code m_S_beat) 28 = .ok (.ireturn, 1) := by decide +kernel
theorem d_S_end_0 : decode (xt_code m_S_end) 0 = .ok (.aload_n 0, 1) := by decide +kernel
theorem d_S_end_1 : decode (xt_code m_S_end) 1 = .ok (.iload_n 1, 1) := by decide +kernel
theorem d_S_end_2 : decode (xt_code m_S_end) 2 = .ok (.invokevirtual 98, 3) := by decide +kernel
theorem d_S_end_5 : decode (xt_code m_S_end) 5 = .ok (.astore 4, 2) := by decide +kernel
theorem d_S_end_7 : decode (xt_code m_S_end) 7 = .ok (.aload 4, 2) := by decide +kernel
theorem d_S_end_9 : decode (xt_code m_S_end) 9 = .ok (.ifnonnull 5, 3) := by decide +kernel
theorem d_S_end_12 : decode (xt_code m_S_end) 12 = .ok (.iconst 0, 1) := by decide +kernel
theorem d_S_end_13 : decode (xt_code m_S_end) 13 = .ok (.ireturn, 1) := by decide +kernel
theorem d_S_end_14 : decode (xt_code m_S_end) 14 = .ok (.aload 4, 2) := by decide +kernel
theorem d_S_end_16 : decode (xt_code m_S_end) 16 = .ok (.getfield 102, 3) := by decide +kernel
theorem d_S_end_19 : decode (xt_code m_S_end) 19 = .ok (.astore 5, 2) := by decide +kernel
theorem d_S_end_21 : decode (xt_code m_S_end) 21 = .ok (.aload 5, 2) := by decide +kernel
theorem d_S_end_23 : decode (xt_code m_S_end) 23 = .ok (.ifnonnull 5, 3) := by decide +kernel
theorem d_S_end_26 : decode (xt_code m_S_end) 26 = .ok (.iconst 0, 1) := by decide +kernel
theorem d_S_end_27 : decode (xt_code m_S_end) 27 = .ok (.ireturn, 1) := by decide +kernel
theorem d_S_end_28 : decode (xt_code m_S_end) 28 = .ok (.iload_n 2, 1) := by decide +kernel
theorem d_S_end_29 : decode (xt_code m_S_end) 29 = .ok (.ifCond .eq 12, 3) := by decide +kernel
theorem d_S_end_32 : decode (xt_code m_S_end) 32 = .ok (.aload 5, 2) := by decide +kernel
theorem d_S_end_34 : decode (xt_code m_S_end) 34 = .ok (.iload_n 3, 1) := by decide +kernel
theorem d_S_end_35 : decode (xt_code m_S_end) 35 = .ok (.invokevirtual 121, 3) := by decide +kernel
theorem d_S_end_38 : decode (xt_code m_S_end) 38 = .ok (.goto 8, 3) := by decide +kernel
theorem d_S_end_41 : decode (xt_code m_S_end) 41 = .ok (.aload 5, 2) := by decide +kernel
theorem d_S_end_43 : decode (xt_code m_S_end) 43 = .ok (.invokevirtual 124, 3) := by decide +kernel
theorem d_S_end_46 : decode (xt_code m_S_end) 46 = .ok (.aload_n 0, 1) := by decide +kernel
theorem d_S_end_47 : decode (xt_code m_S_end) 47 = .ok (.invokevirtual 67, 3) := by decide +kernel
theorem d_S_end_50 : decode (xt_code m_S_end) 50 = .ok (.iconst 1, 1) := by decide +kernel
theorem d_S_end_51 : decode (xt_code m_S_end) 51 = .ok (.ireturn, 1) := by decide +kernel
theorem d_Tsk_finish_0 : decode (xt_code m_Tsk_finish) 0 = .ok (.aload_n 0, 1) := by decide +kernel
theorem d_Tsk_finish_1 : decode (xt_code m_Tsk_finish) 1 = .ok (.invokevirtual 79, 3) := by decide +kernel
theorem d_Tsk_finish_4 : decode (xt_code m_Tsk_finish) 4 = .ok (.aload_n 0, 1) := by decide +kernel
theorem d_Tsk_finish_5 : decode (xt_code m_Tsk_finish) 5 = .ok (.iload_n 1, 1) := by decide +kernel
theorem d_Tsk_finish_6 : decode (xt_code m_Tsk_finish) 6 = .ok (.putfield 25, 3) := by decide +kernel
theorem d_Tsk_finish_9 : decode (xt_code m_Tsk_finish) 9 = .ok (.aload_n 0, 1) := by decide +kernel
theorem d_Tsk_finish_10 : decode (xt_code m_Tsk_finish) 10 = .ok (.iconst 3, 1) := by decide +kernel
theorem d_Tsk_finish_11 : decode (xt_code m_Tsk_finish) 11 = .ok (.putfield 9, 3) := by decide +kernel
theorem d_Tsk_finish_14 : decode (xt_code m_Tsk_finish) 14 = .ok (.return_, 1) := by decide +kernel
theorem d_Tsk_failTry_0 : decode (xt_code m_Tsk_failTry) 0 = .ok (.aload_n 0, 1) := by decide +kernel
theorem d_Tsk_failTry_1 : decode (xt_code m_Tsk_failTry) 1 = .ok (.invokevirtual 79, 3) := by decide +kernel
theorem d_Tsk_failTry_4 : decode (xt_code m_Tsk_failTry) 4 = .ok (.aload_n 0, 1) := by decide +kernel
theorem d_Tsk_failTry_5 : decode (xt_code m_Tsk_failTry) 5 = .ok (.dup, 1) := by decide +kernel
theorem d_Tsk_failTry_6 : decode (xt_code m_Tsk_failTry) 6 = .ok (.getfield 34, 3) := by decide +kernel
theorem d_Tsk_failTry_9 : decode (xt_code m_Tsk_failTry) 9 = .ok (.iconst 1, 1) := by decide +kernel
theorem d_Tsk_failTry_10 : decode (xt_code m_Tsk_failTry) 10 = .ok (.iadd, 1) := by decide +kernel
theorem d_Tsk_failTry_11 : decode (xt_code m_Tsk_failTry) 11 = .ok (.putfield 34, 3) := by decide +kernel
theorem d_Tsk_failTry_14 : decode (xt_code m_Tsk_failTry) 14 = .ok (.aload_n 0, 1) := by decide +kernel
theorem d_Tsk_failTry_15 : decode (xt_code m_Tsk_failTry) 15 = .ok (.aload_n 0, 1) := by decide +kernel
theorem d_Tsk_failTry_16 : decode (xt_code m_Tsk_failTry) 16 = .ok (.getfield 34, 3) := by decide +kernel
theorem d_Tsk_failTry_19 : decode (xt_code m_Tsk_failTry) 19 = .ok (.aload_n 0, 1) := by decide +kernel
theorem d_Tsk_failTry_20 : decode (xt_code m_Tsk_failTry) 20 = .ok (.getfield 48, 3) := by decide +kernel
theorem d_Tsk_failTry_23 : decode (xt_code m_Tsk_failTry) 23 = .ok (.getfield 82, 3) := by decide +kernel
theorem d_Tsk_failTry_26 : decode (xt_code m_Tsk_failTry) 26 = .ok (.if_icmp .gt 7, 3) := by decide +kernel
theorem d_Tsk_failTry_29 : decode (xt_code m_Tsk_failTry) 29 = .ok (.iconst 1, 1) := by decide +kernel
theorem d_Tsk_failTry_30 : decode (xt_code m_Tsk_failTry) 30 = .ok (.goto 4, 3) := by decide +kernel
theorem d_Tsk_failTry_33 : decode (xt_code m_Tsk_failTry) 33 = .ok (.iconst 4, 1) := by decide +kernel
theorem d_Tsk_failTry_34 : decode (xt_code m_Tsk_failTry) 34 = .ok (.putfield 9, 3) := by decide +kernel
theorem d_Tsk_failTry_37 : decode (xt_code m_Tsk_failTry) 37 = .ok (.return_, 1) := by decide +kernel
theorem d_S_tick_0 : decode (xt_code m_S_tick) 0 = .ok (.iload_n 1, 1) := by decide +kernel
theorem d_S_tick_1 : decode (xt_code m_S_tick) 1 = .ok (.ifCond .lt 10, 3) := by decide +kernel
theorem d_S_tick_4 : decode (xt_code m_S_tick) 4 = .ok (.iload_n 1, 1) := by decide +kernel
theorem d_S_tick_5 : decode (xt_code m_S_tick) 5 = .ok (.sipush 1000, 3) := by decide +kernel
theorem d_S_tick_8 : decode (xt_code m_S_tick) 8 = .ok (.if_icmp .le 5, 3) := by decide +kernel
theorem d_S_tick_11 : decode (xt_code m_S_tick) 11 = .ok (.iconst (-1), 1) := by decide +kernel
theorem d_S_tick_12 : decode (xt_code m_S_tick) 12 = .ok (.ireturn, 1) := by decide +kernel
theorem d_S_tick_13 : decode (xt_code m_S_tick) 13 = .ok (.aload_n 0, 1) := by decide +kernel
theorem d_S_tick_14 : decode (xt_code m_S_tick) 14 = .ok (.getfield 37, 3) := by decide +kernel
theorem d_S_tick_17 : decode (xt_code m_S_tick) 17 = .ok (.iload_n 1, 1) := by decide +kernel
theorem d_S_tick_18 : decode (xt_code m_S_tick) 18 = .ok (.iadd, 1) := by decide +kernel
theorem d_S_tick_19 : decode (xt_code m_S_tick) 19 = .ok (.istore_n 2, 1) := by decide +kernel
theorem d_S_tick_20 : decode (xt_code m_S_tick) 20 = .ok (.iconst 0, 1) := by decide +kernel
theorem d_S_tick_21 : decode (xt_code m_S_tick) 21 = .ok (.istore_n 3, 1) := by decide +kernel
theorem d_S_tick_22 : decode (xt_code m_S_tick) 22 = .ok (.iload_n 3, 1) := by decide +kernel
theorem d_S_tick_23 : decode (xt_code m_S_tick) 23 = .ok (.iload_n 1, 1) := by decide +kernel
theorem d_S_tick_24 : decode (xt_code m_S_tick) 24 = .ok (.if_icmp .ge 30, 3) := by decide +kernel
theorem d_S_tick_27 : decode (xt_code m_S_tick) 27 = .ok (.aload_n 0, 1) := by decide +kernel
theorem d_S_tick_28 : decode (xt_code m_S_tick) 28 = .ok (.invokevirtual 127, 3) := by decide +kernel
theorem d_S_tick_31 : decode (xt_code m_S_tick) 31 = .ok (.ifCond .eq 23, 3) := by decide +kernel
theorem d_S_tick_34 : decode (xt_code m_S_tick) 34 = .ok (.aload_n 0, 1) := by decide +kernel
theorem d_S_tick_35 : decode (xt_code m_S_tick) 35 = .ok (.dup, 1) := by decide +kernel
theorem d_S_tick_36 : decode (xt_code m_S_tick) 36 = .ok (.getfield 37, 3) := by decide +kernel
theorem d_S_tick_39 : decode (xt_code m_S_tick) 39 = .ok (.iconst 1, 1) := by decide +kernel
theorem d_S_tick_40 : decode (xt_code m_S_tick) 40 = .ok (.iadd, 1) := by decide +kernel
theorem d_S_tick_41 : decode (xt_code m_S_tick) 41 = .ok (.putfield 37, 3) := by decide +kernel
theorem d_S_tick_44 : decode (xt_code m_S_tick) 44 = .ok (.aload_n 0, 1) := by decide +kernel
theorem d_S_tick_45 : decode (xt_code m_S_tick) 45 = .ok (.invokevirtual 130, 3) := by decide +kernel
theorem d_S_tick_48 : decode (xt_code m_S_tick) 48 = .ok (.iinc 3 1, 3) := by decide +kernel
theorem d_S_tick_51 : decode (xt_code m_S_tick) 51 = .ok (.goto (-29), 3) := by decide +kernel
theorem d_S_tick_54 : decode (xt_code m_S_tick) 54 = .ok (.aload_n 0, 1) := by decide +kernel
theorem d_S_tick_55 : decode (xt_code m_S_tick) 55 = .ok (.iload_n 2, 1) := by decide +kernel
theorem d_S_tick_56 : decode (xt_code m_S_tick) 56 = .ok (.putfield 37, 3) := by decide +kernel
theorem d_S_tick_59 : decode (xt_code m_S_tick) 59 = .ok (.aload_n 0, 1) := by decide +kernel
theorem d_S_tick_60 : decode (xt_code m_S_tick) 60 = .ok (.invokevirtual 67, 3) := by decide +kernel
theorem d_S_tick_63 : decode (xt_code m_S_tick) 63 = .ok (.aload_n 0, 1) := by decide +kernel
theorem d_S_tick_64 : decode (xt_code m_S_tick) 64 = .ok (.getfield 37, 3) := by decide +kernel
theorem d_S_tick_67 : decode (xt_code m_S_tick) 67 = .ok (.ireturn, 1) := by decide +kernel
theorem d_S_isAnyRunnerBusy_0 : decode (xt_code m_S_isAnyRunnerBusy) 0 = .ok (.iconst 0, 1) := by decide +kernel
theorem d_S_isAnyRunnerBusy_1 : decode (xt_code m_S_isAnyRunnerBusy) 1 = .ok (.istore_n 1, 1) := by decide +kernel
theorem d_S_isAnyRunnerBusy_2 : decode (xt_code m_S_isAnyRunnerBusy) 2 = .ok (.iload_n 1, 1) := by decide +kernel
theorem d_S_isAnyRunnerBusy_3 : decode (xt_code m_S_isAnyRunnerBusy) 3 = .ok (.aload_n 0, 1) := by decide +kernel
end
section
/-! decode rows, by program -/
theorem d_S_isAnyRunnerBusy_4 : decode (xt_code m_S_isAnyRunnerBusy) 4 = .ok (.getfield 31, 3) := by decide +kernel
theorem d_S_isAnyRunnerBusy_7 : decode (xt_code m_S_isAnyRunnerBusy) 7 = .ok (.if_icmp .ge 23, 3) := by decide +kernel
theorem d_S_isAnyRunnerBusy_10 : decode (xt_code m_S_isAnyRunnerBusy) 10 = .ok (.aload_n 0, 1) := by decide +kernel
theorem d_S_isAnyRunnerBusy_11 : decode (xt_code m_S_isAnyRunnerBusy) 11 = .ok (.getfield 17, 3) := by decide +kernel
theorem d_S_isAnyRunnerBusy_14 : decode (xt_code m_S_isAnyRunnerBusy) 14 = .ok (.iload_n 1, 1) := by decide +kernel
theorem d_S_isAnyRunnerBusy_15 : decode (xt_code m_S_isAnyRunnerBusy) 15 = .ok (.aaload, 1) := by decide +kernel
theorem d_S_isAnyRunnerBusy_16 : decode (xt_code m_S_isAnyRunnerBusy) 16 = .ok (.getfield 102, 3) := by decide +kernel
theorem d_S_isAnyRunnerBusy_19 : decode (xt_code m_S_isAnyRunnerBusy) 19 = .ok (.ifnull 5, 3) := by decide +kernel
theorem d_S_isAnyRunnerBusy_22 : decode (xt_code m_S_isAnyRunnerBusy) 22 = .ok (.iconst 1, 1) := by decide +kernel
theorem d_S_isAnyRunnerBusy_23 : decode (xt_code m_S_isAnyRunnerBusy) 23 = .ok (.ireturn, 1) := by decide +kernel
theorem d_S_isAnyRunnerBusy_24 : decode (xt_code m_S_isAnyRunnerBusy) 24 = .ok (.iinc 1 1, 3) := by decide +kernel
theorem d_S_isAnyRunnerBusy_27 : decode (xt_code m_S_isAnyRunnerBusy) 27 = .ok (.goto (-25), 3) := by decide +kernel
theorem d_S_isAnyRunnerBusy_30 : decode (xt_code m_S_isAnyRunnerBusy) 30 = .ok (.iconst 0, 1) := by decide +kernel
theorem d_S_isAnyRunnerBusy_31 : decode (xt_code m_S_isAnyRunnerBusy) 31 = .ok (.ireturn, 1) := by decide +kernel
theorem d_S_checkRunners_0 : decode (xt_code m_S_checkRunners) 0 = .ok (.iconst 0, 1) := by decide +kernel
theorem d_S_checkRunners_1 : decode (xt_code m_S_checkRunners) 1 = .ok (.istore_n 1, 1) := by decide +kernel
theorem d_S_checkRunners_2 : decode (xt_code m_S_checkRunners) 2 = .ok (.iload_n 1, 1) := by decide +kernel
theorem d_S_checkRunners_3 : decode (xt_code m_S_checkRunners) 3 = .ok (.aload_n 0, 1) := by decide +kernel
theorem d_S_checkRunners_4 : decode (xt_code m_S_checkRunners) 4 = .ok (.getfield 31, 3) := by decide +kernel
theorem d_S_checkRunners_7 : decode (xt_code m_S_checkRunners) 7 = .ok (.if_icmp .ge 66, 3) := by decide +kernel
theorem d_S_checkRunners_10 : decode (xt_code m_S_checkRunners) 10 = .ok (.aload_n 0, 1) := by decide +kernel
theorem d_S_checkRunners_11 : decode (xt_code m_S_checkRunners) 11 = .ok (.getfield 17, 3) := by decide +kernel
theorem d_S_checkRunners_14 : decode (xt_code m_S_checkRunners) 14 = .ok (.iload_n 1, 1) := by decide +kernel
theorem d_S_checkRunners_15 : decode (xt_code m_S_checkRunners) 15 = .ok (.aaload, 1) := by decide +kernel
theorem d_S_checkRunners_16 : decode (xt_code m_S_checkRunners) 16 = .ok (.getfield 102, 3) := by decide +kernel
theorem d_S_checkRunners_19 : decode (xt_code m_S_checkRunners) 19 = .ok (.astore_n 2, 1) := by decide +kernel
theorem d_S_checkRunners_20 : decode (xt_code m_S_checkRunners) 20 = .ok (.aload_n 2, 1) := by decide +kernel
theorem d_S_checkRunners_21 : decode (xt_code m_S_checkRunners) 21 = .ok (.ifnull 46, 3) := by decide +kernel
theorem d_S_checkRunners_24 : decode (xt_code m_S_checkRunners) 24 = .ok (.aload_n 0, 1) := by decide +kernel
theorem d_S_checkRunners_25 : decode (xt_code m_S_checkRunners) 25 = .ok (.getfield 37, 3) := by decide +kernel
theorem d_S_checkRunners_28 : decode (xt_code m_S_checkRunners) 28 = .ok (.aload_n 0, 1) := by decide +kernel
theorem d_S_checkRunners_29 : decode (xt_code m_S_checkRunners) 29 = .ok (.getfield 17, 3) := by decide +kernel
theorem d_S_checkRunners_32 : decode (xt_code m_S_checkRunners) 32 = .ok (.iload_n 1, 1) := by decide +kernel
theorem d_S_checkRunners_33 : decode (xt_code m_S_checkRunners) 33 = .ok (.aaload, 1) := by decide +kernel
theorem d_S_checkRunners_34 : decode (xt_code m_S_checkRunners) 34 = .ok (.getfield 118, 3) := by decide +kernel
theorem d_S_checkRunners_37 : decode (xt_code m_S_checkRunners) 37 = .ok (.isub, 1) := by decide +kernel
theorem d_S_checkRunners_38 : decode (xt_code m_S_checkRunners) 38 = .ok (.aload_n 0, 1) := by decide +kernel
theorem d_S_checkRunners_39 : decode (xt_code m_S_checkRunners) 39 = .ok (.getfield 40, 3) := by decide +kernel
theorem d_S_checkRunners_42 : decode (xt_code m_S_checkRunners) 42 = .ok (.if_icmp .le 10, 3) := by decide +kernel
theorem d_S_checkRunners_45 : decode (xt_code m_S_checkRunners) 45 = .ok (.aload_n 2, 1) := by decide +kernel
theorem d_S_checkRunners_46 : decode (xt_code m_S_checkRunners) 46 = .ok (.invokevirtual 198, 3) := by decide +kernel
theorem d_S_checkRunners_49 : decode (xt_code m_S_checkRunners) 49 = .ok (.goto 18, 3) := by decide +kernel
theorem d_S_checkRunners_52 : decode (xt_code m_S_checkRunners) 52 = .ok (.aload_n 2, 1) := by decide +kernel
theorem d_S_checkRunners_53 : decode (xt_code m_S_checkRunners) 53 = .ok (.aload_n 0, 1) := by decide +kernel
theorem d_S_checkRunners_54 : decode (xt_code m_S_checkRunners) 54 = .ok (.getfield 37, 3) := by decide +kernel
theorem d_S_checkRunners_57 : decode (xt_code m_S_checkRunners) 57 = .ok (.invokevirtual 201, 3) := by decide +kernel
theorem d_S_checkRunners_60 : decode (xt_code m_S_checkRunners) 60 = .ok (.ifCond .eq 7, 3) := by decide +kernel
theorem d_S_checkRunners_63 : decode (xt_code m_S_checkRunners) 63 = .ok (.aload_n 2, 1) := by decide +kernel
theorem d_S_checkRunners_64 : decode (xt_code m_S_checkRunners) 64 = .ok (.invokevirtual 124, 3) := by decide +kernel
theorem d_S_checkRunners_67 : decode (xt_code m_S_checkRunners) 67 = .ok (.iinc 1 1, 3) := by decide +kernel
theorem d_S_checkRunners_70 : decode (xt_code m_S_checkRunners) 70 = .ok (.goto (-68), 3) := by decide +kernel
theorem d_S_checkRunners_73 : decode (xt_code m_S_checkRunners) 73 = .ok (.return_, 1) := by decide +kernel
theorem d_Tsk_loseRunner_0 : decode (xt_code m_Tsk_loseRunner) 0 = .ok (.aload_n 0, 1) := by decide +kernel
theorem d_Tsk_loseRunner_1 : decode (xt_code m_Tsk_loseRunner) 1 = .ok (.invokevirtual 79, 3) := by decide +kernel
theorem d_Tsk_loseRunner_4 : decode (xt_code m_Tsk_loseRunner) 4 = .ok (.aload_n 0, 1) := by decide +kernel
theorem d_Tsk_loseRunner_5 : decode (xt_code m_Tsk_loseRunner) 5 = .ok (.dup, 1) := by decide +kernel
theorem d_Tsk_loseRunner_6 : decode (xt_code m_Tsk_loseRunner) 6 = .ok (.getfield 31, 3) := by decide +kernel
theorem d_Tsk_loseRunner_9 : decode (xt_code m_Tsk_loseRunner) 9 = .ok (.iconst 1, 1) := by decide +kernel
theorem d_Tsk_loseRunner_10 : decode (xt_code m_Tsk_loseRunner) 10 = .ok (.iadd, 1) := by decide +kernel
theorem d_Tsk_loseRunner_11 : decode (xt_code m_Tsk_loseRunner) 11 = .ok (.putfield 31, 3) := by decide +kernel
theorem d_Tsk_loseRunner_14 : decode (xt_code m_Tsk_loseRunner) 14 = .ok (.aload_n 0, 1) := by decide +kernel
theorem d_Tsk_loseRunner_15 : decode (xt_code m_Tsk_loseRunner) 15 = .ok (.aload_n 0, 1) := by decide +kernel
theorem d_Tsk_loseRunner_16 : decode (xt_code m_Tsk_loseRunner) 16 = .ok (.getfield 37, 3) := by decide +kernel
theorem d_Tsk_loseRunner_19 : decode (xt_code m_Tsk_loseRunner) 19 = .ok (.ifCond .eq 7, 3) := by decide +kernel
theorem d_Tsk_loseRunner_22 : decode (xt_code m_Tsk_loseRunner) 22 = .ok (.iconst 4, 1) := by decide +kernel
theorem d_Tsk_loseRunner_23 : decode (xt_code m_Tsk_loseRunner) 23 = .ok (.goto 4, 3) := by decide +kernel
theorem d_Tsk_loseRunner_26 : decode (xt_code m_Tsk_loseRunner) 26 = .ok (.iconst 1, 1) := by decide +kernel
theorem d_Tsk_loseRunner_27 : decode (xt_code m_Tsk_loseRunner) 27 = .ok (.putfield 9, 3) := by decide +kernel
theorem d_Tsk_loseRunner_30 : decode (xt_code m_Tsk_loseRunner) 30 = .ok (.aload_n 0, 1) := by decide +kernel
theorem d_Tsk_loseRunner_31 : decode (xt_code m_Tsk_loseRunner) 31 = .ok (.iconst 1, 1) := by decide +kernel
theorem d_Tsk_loseRunner_32 : decode (xt_code m_Tsk_loseRunner) 32 = .ok (.putfield 37, 3) := by decide +kernel
theorem d_Tsk_loseRunner_35 : decode (xt_code m_Tsk_loseRunner) 35 = .ok (.return_, 1) := by decide +kernel
theorem d_Tsk_isPastLimit_0 : decode (xt_code m_Tsk_isPastLimit) 0 = .ok (.aload_n 0, 1) := by decide +kernel
theorem d_Tsk_isPastLimit_1 : decode (xt_code m_Tsk_isPastLimit) 1 = .ok (.getfield 48, 3) := by decide +kernel
theorem d_Tsk_isPastLimit_4 : decode (xt_code m_Tsk_isPastLimit) 4 = .ok (.getfield 66, 3) := by decide +kernel
theorem d_Tsk_isPastLimit_7 : decode (xt_code m_Tsk_isPastLimit) 7 = .ok (.ifCond .le 23, 3) := by decide +kernel
theorem d_Tsk_isPastLimit_10 : decode (xt_code m_Tsk_isPastLimit) 10 = .ok (.iload_n 1, 1) := by decide +kernel
theorem d_Tsk_isPastLimit_11 : decode (xt_code m_Tsk_isPastLimit) 11 = .ok (.aload_n 0, 1) := by decide +kernel
theorem d_Tsk_isPastLimit_12 : decode (xt_code m_Tsk_isPastLimit) 12 = .ok (.getfield 19, 3) := by decide +kernel
theorem d_Tsk_isPastLimit_15 : decode (xt_code m_Tsk_isPastLimit) 15 = .ok (.isub, 1) := by decide +kernel
theorem d_Tsk_isPastLimit_16 : decode (xt_code m_Tsk_isPastLimit) 16 = .ok (.aload_n 0, 1) := by decide +kernel
theorem d_Tsk_isPastLimit_17 : decode (xt_code m_Tsk_isPastLimit) 17 = .ok (.getfield 48, 3) := by decide +kernel
theorem d_Tsk_isPastLimit_20 : decode (xt_code m_Tsk_isPastLimit) 20 = .ok (.getfield 66, 3) := by decide +kernel
theorem d_Tsk_isPastLimit_23 : decode (xt_code m_Tsk_isPastLimit) 23 = .ok (.if_icmp .lt 7, 3) := by decide +kernel
theorem d_Tsk_isPastLimit_26 : decode (xt_code m_Tsk_isPastLimit) 26 = .ok (.iconst 1, 1) := by decide +kernel
theorem d_Tsk_isPastLimit_27 : decode (xt_code m_Tsk_isPastLimit) 27 = .ok (.goto 4, 3) := by decide +kernel
theorem d_Tsk_isPastLimit_30 : decode (xt_code m_Tsk_isPastLimit) 30 = .ok (.iconst 0, 1) := by decide +kernel
theorem d_Tsk_isPastLimit_31 : decode (xt_code m_Tsk_isPastLimit) 31 = .ok (.ireturn, 1) := by decide +kernel
theorem d_S_cancel_0 : decode (xt_code m_S_cancel) 0 = .ok (.aload_n 0, 1) := by decide +kernel
theorem d_S_cancel_1 : decode (xt_code m_S_cancel) 1 = .ok (.iload_n 1, 1) := by decide +kernel
theorem d_S_cancel_2 : decode (xt_code m_S_cancel) 2 = .ok (.invokevirtual 133, 3) := by decide +kernel
theorem d_S_cancel_5 : decode (xt_code m_S_cancel) 5 = .ok (.astore_n 2, 1) := by decide +kernel
theorem d_S_cancel_6 : decode (xt_code m_S_cancel) 6 = .ok (.aload_n 2, 1) := by decide +kernel
theorem d_S_cancel_7 : decode (xt_code m_S_cancel) 7 = .ok (.ifnull 17, 3) := by decide +kernel
theorem d_S_cancel_10 : decode (xt_code m_S_cancel) 10 = .ok (.aload_n 2, 1) := by decide +kernel
theorem d_S_cancel_11 : decode (xt_code m_S_cancel) 11 = .ok (.getfield 137, 3) := by decide +kernel
theorem d_S_cancel_14 : decode (xt_code m_S_cancel) 14 = .ok (.ifCond .ne 10, 3) := by decide +kernel
theorem d_S_cancel_17 : decode (xt_code m_S_cancel) 17 = .ok (.aload_n 2, 1) := by decide +kernel
theorem d_S_cancel_18 : decode (xt_code m_S_cancel) 18 = .ok (.invokevirtual 140, 3) := by decide +kernel
theorem d_S_cancel_21 : decode (xt_code m_S_cancel) 21 = .ok (.ifCond .eq 5, 3) := by decide +kernel
theorem d_S_cancel_24 : decode (xt_code m_S_cancel) 24 = .ok (.iconst 0, 1) := by decide +kernel
theorem d_S_cancel_25 : decode (xt_code m_S_cancel) 25 = .ok (.ireturn, 1) := by decide +kernel
theorem d_S_cancel_26 : decode (xt_code m_S_cancel) 26 = .ok (.aload_n 2, 1) := by decide +kernel
theorem d_S_cancel_27 : decode (xt_code m_S_cancel) 27 = .ok (.invokevirtual 143, 3) := by decide +kernel
theorem d_S_cancel_30 : decode (xt_code m_S_cancel) 30 = .ok (.aload_n 0, 1) := by decide +kernel
theorem d_S_cancel_31 : decode (xt_code m_S_cancel) 31 = .ok (.invokevirtual 67, 3) := by decide +kernel
theorem d_S_cancel_34 : decode (xt_code m_S_cancel) 34 = .ok (.iconst 1, 1) := by decide +kernel
theorem d_S_cancel_35 : decode (xt_code m_S_cancel) 35 = .ok (.ireturn, 1) := by decide +kernel
theorem d_S_again_0 : decode (xt_code m_S_again) 0 = .ok (.aload_n 0, 1) := by decide +kernel
theorem d_S_again_1 : decode (xt_code m_S_again) 1 = .ok (.iload_n 1, 1) := by decide +kernel
theorem d_S_again_2 : decode (xt_code m_S_again) 2 = .ok (.invokevirtual 133, 3) := by decide +kernel
theorem d_S_again_5 : decode (xt_code m_S_again) 5 = .ok (.astore_n 2, 1) := by decide +kernel
theorem d_S_again_6 : decode (xt_code m_S_again) 6 = .ok (.aload_n 2, 1) := by decide +kernel
theorem d_S_again_7 : decode (xt_code m_S_again) 7 = .ok (.ifnull 17, 3) := by decide +kernel
theorem d_S_again_10 : decode (xt_code m_S_again) 10 = .ok (.aload_n 2, 1) := by decide +kernel
theorem d_S_again_11 : decode (xt_code m_S_again) 11 = .ok (.getfield 137, 3) := by decide +kernel
theorem d_S_again_14 : decode (xt_code m_S_again) 14 = .ok (.ifCond .ne 10, 3) := by decide +kernel
theorem d_S_again_17 : decode (xt_code m_S_again) 17 = .ok (.aload_n 2, 1) := by decide +kernel
theorem d_S_again_18 : decode (xt_code m_S_again) 18 = .ok (.invokevirtual 140, 3) := by decide +kernel
theorem d_S_again_21 : decode (xt_code m_S_again) 21 = .ok (.ifCond .ne 5, 3) := by decide +kernel
theorem d_S_again_24 : decode (xt_code m_S_again) 24 = .ok (.iconst (-1), 1) := by decide +kernel
theorem d_S_again_25 : decode (xt_code m_S_again) 25 = .ok (.ireturn, 1) := by decide +kernel
theorem d_S_again_26 : decode (xt_code m_S_again) 26 = .ok (.aload_n 2, 1) := by decide +kernel
theorem d_S_again_27 : decode (xt_code m_S_again) 27 = .ok (.invokevirtual 146, 3) := by decide +kernel
theorem d_S_again_30 : decode (xt_code m_S_again) 30 = .ok (.istore_n 3, 1) := by decide +kernel
theorem d_S_again_31 : decode (xt_code m_S_again) 31 = .ok (.aload_n 0, 1) := by decide +kernel
theorem d_S_again_32 : decode (xt_code m_S_again) 32 = .ok (.invokevirtual 67, 3) := by decide +kernel
theorem d_S_again_35 : decode (xt_code m_S_again) 35 = .ok (.iload_n 3, 1) := by decide +kernel
theorem d_S_again_36 : decode (xt_code m_S_again) 36 = .ok (.ireturn, 1) := by decide +kernel
theorem d_Run_redoFailed_0 : decode (xt_code m_Run_redoFailed) 0 = .ok (.iconst 0, 1) := by decide +kernel
theorem d_Run_redoFailed_1 : decode (xt_code m_Run_redoFailed) 1 = .ok (.istore_n 1, 1) := by decide +kernel
theorem d_Run_redoFailed_2 : decode (xt_code m_Run_redoFailed) 2 = .ok (.iconst 0, 1) := by decide +kernel
theorem d_Run_redoFailed_3 : decode (xt_code m_Run_redoFailed) 3 = .ok (.istore_n 2, 1) := by decide +kernel
theorem d_Run_redoFailed_4 : decode (xt_code m_Run_redoFailed) 4 = .ok (.iload_n 2, 1) := by decide +kernel
theorem d_Run_redoFailed_5 : decode (xt_code m_Run_redoFailed) 5 = .ok (.aload_n 0, 1) := by decide +kernel
theorem d_Run_redoFailed_6 : decode (xt_code m_Run_redoFailed) 6 = .ok (.getfield 27, 3) := by decide +kernel
theorem d_Run_redoFailed_9 : decode (xt_code m_Run_redoFailed) 9 = .ok (.arraylength, 1) := by decide +kernel
theorem d_Run_redoFailed_10 : decode (xt_code m_Run_redoFailed) 10 = .ok (.if_icmp .ge 47, 3) := by decide +kernel
theorem d_Run_redoFailed_13 : decode (xt_code m_Run_redoFailed) 13 = .ok (.aload_n 0, 1) := by decide +kernel
theorem d_Run_redoFailed_14 : decode (xt_code m_Run_redoFailed) 14 = .ok (.getfield 27, 3) := by decide +kernel
theorem d_Run_redoFailed_17 : decode (xt_code m_Run_redoFailed) 17 = .ok (.iload_n 2, 1) := by decide +kernel
theorem d_Run_redoFailed_18 : decode (xt_code m_Run_redoFailed) 18 = .ok (.aaload, 1) := by decide +kernel
theorem d_Run_redoFailed_19 : decode (xt_code m_Run_redoFailed) 19 = .ok (.getfield 35, 3) := by decide +kernel
theorem d_Run_redoFailed_22 : decode (xt_code m_Run_redoFailed) 22 = .ok (.iconst 4, 1) := by decide +kernel
theorem d_Run_redoFailed_23 : decode (xt_code m_Run_redoFailed) 23 = .ok (.if_icmp .eq 16, 3) := by decide +kernel
theorem d_Run_redoFailed_26 : decode (xt_code m_Run_redoFailed) 26 = .ok (.aload_n 0, 1) := by decide +kernel
theorem d_Run_redoFailed_27 : decode (xt_code m_Run_redoFailed) 27 = .ok (.getfield 27, 3) := by decide +kernel
theorem d_Run_redoFailed_30 : decode (xt_code m_Run_redoFailed) 30 = .ok (.iload_n 2, 1) := by decide +kernel
theorem d_Run_redoFailed_31 : decode (xt_code m_Run_redoFailed) 31 = .ok (.aaload, 1) := by decide +kernel
theorem d_Run_redoFailed_32 : decode (xt_code m_Run_redoFailed) 32 = .ok (.getfield 35, 3) := by decide +kernel
theorem d_Run_redoFailed_35 : decode (xt_code m_Run_redoFailed) 35 = .ok (.iconst 5, 1) := by decide +kernel
theorem d_Run_redoFailed_36 : decode (xt_code m_Run_redoFailed) 36 = .ok (.if_icmp .ne 15, 3) := by decide +kernel
theorem d_Run_redoFailed_39 : decode (xt_code m_Run_redoFailed) 39 = .ok (.aload_n 0, 1) := by decide +kernel
theorem d_Run_redoFailed_40 : decode (xt_code m_Run_redoFailed) 40 = .ok (.getfield 27, 3) := by decide +kernel
theorem d_Run_redoFailed_43 : decode (xt_code m_Run_redoFailed) 43 = .ok (.iload_n 2, 1) := by decide +kernel
theorem d_Run_redoFailed_44 : decode (xt_code m_Run_redoFailed) 44 = .ok (.aaload, 1) := by decide +kernel
theorem d_Run_redoFailed_45 : decode (xt_code m_Run_redoFailed) 45 = .ok (.invokevirtual 56, 3) := by decide +kernel
theorem d_Run_redoFailed_48 : decode (xt_code m_Run_redoFailed) 48 = .ok (.iinc 1 1, 3) := by decide +kernel
theorem d_Run_redoFailed_51 : decode (xt_code m_Run_redoFailed) 51 = .ok (.iinc 2 1, 3) := by decide +kernel
theorem d_Run_redoFailed_54 : decode (xt_code m_Run_redoFailed) 54 = .ok (.goto (-50), 3) := by decide +kernel
theorem d_Run_redoFailed_57 : decode (xt_code m_Run_redoFailed) 57 = .ok (.iload_n 1, 1) := by decide +kernel
theorem d_Run_redoFailed_58 : decode (xt_code m_Run_redoFailed) 58 = .ok (.ireturn, 1) := by decide +kernel
theorem d_Tsk_waitAgain_0 : decode (xt_code m_Tsk_waitAgain) 0 = .ok (.aload_n 0, 1) := by decide +kernel
theorem d_Tsk_waitAgain_1 : decode (xt_code m_Tsk_waitAgain) 1 = .ok (.iconst 0, 1) := by decide +kernel
theorem d_Tsk_waitAgain_2 : decode (xt_code m_Tsk_waitAgain) 2 = .ok (.putfield 9, 3) := by decide +kernel
theorem d_Tsk_waitAgain_5 : decode (xt_code m_Tsk_waitAgain) 5 = .ok (.aload_n 0, 1) := by decide +kernel
theorem d_Tsk_waitAgain_6 : decode (xt_code m_Tsk_waitAgain) 6 = .ok (.iconst 0, 1) := by decide +kernel
theorem d_Tsk_waitAgain_7 : decode (xt_code m_Tsk_waitAgain) 7 = .ok (.putfield 34, 3) := by decide +kernel
theorem d_Tsk_waitAgain_10 : decode (xt_code m_Tsk_waitAgain) 10 = .ok (.aload_n 0, 1) := by decide +kernel
theorem d_Tsk_waitAgain_11 : decode (xt_code m_Tsk_waitAgain) 11 = .ok (.iconst 0, 1) := by decide +kernel
theorem d_Tsk_waitAgain_12 : decode (xt_code m_Tsk_waitAgain) 12 = .ok (.putfield 37, 3) := by decide +kernel
theorem d_Tsk_waitAgain_15 : decode (xt_code m_Tsk_waitAgain) 15 = .ok (.return_, 1) := by decide +kernel
theorem d_S_state_0 : decode (xt_code m_S_state) 0 = .ok (.aload_n 0, 1) := by decide +kernel
theorem d_S_state_1 : decode (xt_code m_S_state) 1 = .ok (.iload_n 1, 1) := by decide +kernel
theorem d_S_state_2 : decode (xt_code m_S_state) 2 = .ok (.iload_n 2, 1) := by decide +kernel
theorem d_S_state_3 : decode (xt_code m_S_state) 3 = .ok (.invokevirtual 70, 3) := by decide +kernel
theorem d_S_state_6 : decode (xt_code m_S_state) 6 = .ok (.astore_n 3, 1) := by decide +kernel
theorem d_S_state_7 : decode (xt_code m_S_state) 7 = .ok (.aload_n 3, 1) := by decide +kernel
theorem d_S_state_8 : decode (xt_code m_S_state) 8 = .ok (.ifnonnull 7, 3) := by decide +kernel
theorem d_S_state_11 : decode (xt_code m_S_state) 11 = .ok (.iconst (-1), 1) := by decide +kernel
theorem d_S_state_12 : decode (xt_code m_S_state) 12 = .ok (.goto 7, 3) := by decide +kernel
theorem d_S_state_15 : decode (xt_code m_S_state) 15 = .ok (.aload_n 3, 1) := by decide +kernel
theorem d_S_state_16 : decode (xt_code m_S_state) 16 = .ok (.getfield 149, 3) := by decide +kernel
theorem d_S_state_19 : decode (xt_code m_S_state) 19 = .ok (.ireturn, 1) := by decide +kernel
theorem d_S_about_0 : decode (xt_code m_S_about) 0 = .ok (.aload_n 0, 1) := by decide +kernel
theorem d_S_about_1 : decode (xt_code m_S_about) 1 = .ok (.iload_n 1, 1) := by decide +kernel
theorem d_S_about_2 : decode (xt_code m_S_about) 2 = .ok (.iload_n 2, 1) := by decide +kernel
theorem d_S_about_3 : decode (xt_code m_S_about) 3 = .ok (.invokevirtual 70, 3) := by decide +kernel
theorem d_S_about_6 : decode (xt_code m_S_about) 6 = .ok (.astore 4, 2) := by decide +kernel
theorem d_S_about_8 : decode (xt_code m_S_about) 8 = .ok (.aload 4, 2) := by decide +kernel
theorem d_S_about_10 : decode (xt_code m_S_about) 10 = .ok (.ifnonnull 5, 3) := by decide +kernel
theorem d_S_about_13 : decode (xt_code m_S_about) 13 = .ok (.iconst (-1), 1) := by decide +kernel
theorem d_S_about_14 : decode (xt_code m_S_about) 14 = .ok (.ireturn, 1) := by decide +kernel
theorem d_S_about_15 : decode (xt_code m_S_about) 15 = .ok (.iload_n 3, 1) := by decide +kernel
theorem d_S_about_16 : decode (xt_code m_S_about) 16 = .ok (.tableswitch 74 0 4 #[36, 42, 48, 54, 60], 36) := by decide +kernel
theorem d_S_about_52 : decode (xt_code m_S_about) 52 = .ok (.aload 4, 2) := by decide +kernel
theorem d_S_about_54 : decode (xt_code m_S_about) 54 = .ok (.invokevirtual 152, 3) := by decide +kernel
theorem d_S_about_57 : decode (xt_code m_S_about) 57 = .ok (.ireturn, 1) := by decide +kernel
theorem d_S_about_58 : decode (xt_code m_S_about) 58 = .ok (.aload 4, 2) := by decide +kernel
theorem d_S_about_60 : decode (xt_code m_S_about) 60 = .ok (.getfield 155, 3) := by decide +kernel
theorem d_S_about_63 : decode (xt_code m_S_about) 63 = .ok (.ireturn, 1) := by decide +kernel
theorem d_S_about_64 : decode (xt_code m_S_about) 64 = .ok (.aload 4, 2) := by decide +kernel
theorem d_S_about_66 : decode (xt_code m_S_about) 66 = .ok (.getfield 158, 3) := by decide +kernel
theorem d_S_about_69 : decode (xt_code m_S_about) 69 = .ok (.ireturn, 1) := by decide +kernel
theorem d_S_about_70 : decode (xt_code m_S_about) 70 = .ok (.aload 4, 2) := by decide +kernel
theorem d_S_about_72 : decode (xt_code m_S_about) 72 = .ok (.getfield 161, 3) := by decide +kernel
theorem d_S_about_75 : decode (xt_code m_S_about) 75 = .ok (.ireturn, 1) := by decide +kernel
theorem d_S_about_76 : decode (xt_code m_S_about) 76 = .ok (.aload 4, 2) := by decide +kernel
theorem d_S_about_78 : decode (xt_code m_S_about) 78 = .ok (.getfield 88, 3) := by decide +kernel
theorem d_S_about_81 : decode (xt_code m_S_about) 81 = .ok (.aload 4, 2) := by decide +kernel
theorem d_S_about_83 : decode (xt_code m_S_about) 83 = .ok (.getfield 74, 3) := by decide +kernel
theorem d_S_about_86 : decode (xt_code m_S_about) 86 = .ok (.invokevirtual 164, 3) := by decide +kernel
theorem d_S_about_89 : decode (xt_code m_S_about) 89 = .ok (.ireturn, 1) := by decide +kernel
theorem d_S_about_90 : decode (xt_code m_S_about) 90 = .ok (.iconst 0, 1) := by decide +kernel
theorem d_S_about_91 : decode (xt_code m_S_about) 91 = .ok (.ireturn, 1) := by decide +kernel
theorem d_Tsk_runnerNumber_0 : decode (xt_code m_Tsk_runnerNumber) 0 = .ok (.aload_n 0, 1) := by decide +kernel
theorem d_Tsk_runnerNumber_1 : decode (xt_code m_Tsk_runnerNumber) 1 = .ok (.getfield 15, 3) := by decide +kernel
theorem d_Tsk_runnerNumber_4 : decode (xt_code m_Tsk_runnerNumber) 4 = .ok (.ifnonnull 7, 3) := by decide +kernel
theorem d_Tsk_runnerNumber_7 : decode (xt_code m_Tsk_runnerNumber) 7 = .ok (.iconst (-1), 1) := by decide +kernel
theorem d_Tsk_runnerNumber_8 : decode (xt_code m_Tsk_runnerNumber) 8 = .ok (.goto 10, 3) := by decide +kernel
theorem d_Tsk_runnerNumber_11 : decode (xt_code m_Tsk_runnerNumber) 11 = .ok (.aload_n 0, 1) := by decide +kernel
theorem d_Tsk_runnerNumber_12 : decode (xt_code m_Tsk_runnerNumber) 12 = .ok (.getfield 15, 3) := by decide +kernel
theorem d_Tsk_runnerNumber_15 : decode (xt_code m_Tsk_runnerNumber) 15 = .ok (.getfield 69, 3) := by decide +kernel
theorem d_Tsk_runnerNumber_18 : decode (xt_code m_Tsk_runnerNumber) 18 = .ok (.ireturn, 1) := by decide +kernel
theorem d_Run_artefactsFor_0 : decode (xt_code m_Run_artefactsFor) 0 = .ok (.iconst 0, 1) := by decide +kernel
theorem d_Run_artefactsFor_1 : decode (xt_code m_Run_artefactsFor) 1 = .ok (.istore_n 2, 1) := by decide +kernel
theorem d_Run_artefactsFor_2 : decode (xt_code m_Run_artefactsFor) 2 = .ok (.iconst 0, 1) := by decide +kernel
theorem d_Run_artefactsFor_3 : decode (xt_code m_Run_artefactsFor) 3 = .ok (.istore_n 3, 1) := by decide +kernel
theorem d_Run_artefactsFor_4 : decode (xt_code m_Run_artefactsFor) 4 = .ok (.iload_n 3, 1) := by decide +kernel
theorem d_Run_artefactsFor_5 : decode (xt_code m_Run_artefactsFor) 5 = .ok (.aload_n 0, 1) := by decide +kernel
theorem d_Run_artefactsFor_6 : decode (xt_code m_Run_artefactsFor) 6 = .ok (.getfield 27, 3) := by decide +kernel
theorem d_Run_artefactsFor_9 : decode (xt_code m_Run_artefactsFor) 9 = .ok (.arraylength, 1) := by decide +kernel
theorem d_Run_artefactsFor_10 : decode (xt_code m_Run_artefactsFor) 10 = .ok (.if_icmp .ge 29, 3) := by decide +kernel
theorem d_Run_artefactsFor_13 : decode (xt_code m_Run_artefactsFor) 13 = .ok (.aload_n 1, 1) := by decide +kernel
theorem d_Run_artefactsFor_14 : decode (xt_code m_Run_artefactsFor) 14 = .ok (.iload_n 3, 1) := by decide +kernel
theorem d_Run_artefactsFor_15 : decode (xt_code m_Run_artefactsFor) 15 = .ok (.invokevirtual 63, 3) := by decide +kernel
theorem d_Run_artefactsFor_18 : decode (xt_code m_Run_artefactsFor) 18 = .ok (.ifCond .eq 15, 3) := by decide +kernel
theorem d_Run_artefactsFor_21 : decode (xt_code m_Run_artefactsFor) 21 = .ok (.iload_n 2, 1) := by decide +kernel
theorem d_Run_artefactsFor_22 : decode (xt_code m_Run_artefactsFor) 22 = .ok (.aload_n 0, 1) := by decide +kernel
theorem d_Run_artefactsFor_23 : decode (xt_code m_Run_artefactsFor) 23 = .ok (.getfield 27, 3) := by decide +kernel
theorem d_Run_artefactsFor_26 : decode (xt_code m_Run_artefactsFor) 26 = .ok (.iload_n 3, 1) := by decide +kernel
theorem d_Run_artefactsFor_27 : decode (xt_code m_Run_artefactsFor) 27 = .ok (.aaload, 1) := by decide +kernel
theorem d_Run_artefactsFor_28 : decode (xt_code m_Run_artefactsFor) 28 = .ok (.getfield 76, 3) := by decide +kernel
theorem d_Run_artefactsFor_31 : decode (xt_code m_Run_artefactsFor) 31 = .ok (.ixor, 1) := by decide +kernel
theorem d_Run_artefactsFor_32 : decode (xt_code m_Run_artefactsFor) 32 = .ok (.istore_n 2, 1) := by decide +kernel
theorem d_Run_artefactsFor_33 : decode (xt_code m_Run_artefactsFor) 33 = .ok (.iinc 3 1, 3) := by decide +kernel
theorem d_Run_artefactsFor_36 : decode (xt_code m_Run_artefactsFor) 36 = .ok (.goto (-32), 3) := by decide +kernel
theorem d_Run_artefactsFor_39 : decode (xt_code m_Run_artefactsFor) 39 = .ok (.iload_n 2, 1) := by decide +kernel
theorem d_Run_artefactsFor_40 : decode (xt_code m_Run_artefactsFor) 40 = .ok (.ireturn, 1) := by decide +kernel
theorem d_S_verdict_0 : decode (xt_code m_S_verdict) 0 = .ok (.aload_n 0, 1) := by decide +kernel
theorem d_S_verdict_1 : decode (xt_code m_S_verdict) 1 = .ok (.iload_n 1, 1) := by decide +kernel
theorem d_S_verdict_2 : decode (xt_code m_S_verdict) 2 = .ok (.invokevirtual 133, 3) := by decide +kernel
theorem d_S_verdict_5 : decode (xt_code m_S_verdict) 5 = .ok (.astore_n 2, 1) := by decide +kernel
theorem d_S_verdict_6 : decode (xt_code m_S_verdict) 6 = .ok (.aload_n 2, 1) := by decide +kernel
theorem d_S_verdict_7 : decode (xt_code m_S_verdict) 7 = .ok (.ifnonnull 7, 3) := by decide +kernel
theorem d_S_verdict_10 : decode (xt_code m_S_verdict) 10 = .ok (.iconst (-1), 1) := by decide +kernel
theorem d_S_verdict_11 : decode (xt_code m_S_verdict) 11 = .ok (.goto 7, 3) := by decide +kernel
theorem d_S_verdict_14 : decode (xt_code m_S_verdict) 14 = .ok (.aload_n 2, 1) := by decide +kernel
theorem d_S_verdict_15 : decode (xt_code m_S_verdict) 15 = .ok (.invokevirtual 168, 3) := by decide +kernel
theorem d_S_verdict_18 : decode (xt_code m_S_verdict) 18 = .ok (.ireturn, 1) := by decide +kernel
theorem d_Run_judge_0 : decode (xt_code m_Run_judge) 0 = .ok (.aload_n 0, 1) := by decide +kernel
theorem d_Run_judge_1 : decode (xt_code m_Run_judge) 1 = .ok (.invokevirtual 38, 3) := by decide +kernel
theorem d_Run_judge_4 : decode (xt_code m_Run_judge) 4 = .ok (.ifCond .ne 5, 3) := by decide +kernel
theorem d_Run_judge_7 : decode (xt_code m_Run_judge) 7 = .ok (.iconst 0, 1) := by decide +kernel
theorem d_Run_judge_8 : decode (xt_code m_Run_judge) 8 = .ok (.ireturn, 1) := by decide +kernel
theorem d_Run_judge_9 : decode (xt_code m_Run_judge) 9 = .ok (.aload_n 0, 1) := by decide +kernel
theorem d_Run_judge_10 : decode (xt_code m_Run_judge) 10 = .ok (.getfield 9, 3) := by decide +kernel
theorem d_Run_judge_13 : decode (xt_code m_Run_judge) 13 = .ok (.ifCond .eq 5, 3) := by decide +kernel
theorem d_Run_judge_16 : decode (xt_code m_Run_judge) 16 = .ok (.iconst 3, 1) := by decide +kernel
theorem d_Run_judge_17 : decode (xt_code m_Run_judge) 17 = .ok (.ireturn, 1) := by decide +kernel
theorem d_Run_judge_18 : decode (xt_code m_Run_judge) 18 = .ok (.aload_n 0, 1) := by decide +kernel
theorem d_Run_judge_19 : decode (xt_code m_Run_judge) 19 = .ok (.invokevirtual 41, 3) := by decide +kernel
theorem d_Run_judge_22 : decode (xt_code m_Run_judge) 22 = .ok (.ifCond .eq 7, 3) := by decide +kernel
theorem d_Run_judge_25 : decode (xt_code m_Run_judge) 25 = .ok (.iconst 2, 1) := by decide +kernel
theorem d_Run_judge_26 : decode (xt_code m_Run_judge) 26 = .ok (.goto 4, 3) := by decide +kernel
theorem d_Run_judge_29 : decode (xt_code m_Run_judge) 29 = .ok (.iconst 1, 1) := by decide +kernel
theorem d_Run_judge_30 : decode (xt_code m_Run_judge) 30 = .ok (.ireturn, 1) := by decide +kernel
theorem d_Run_isAnyFailed_0 : decode (xt_code m_Run_isAnyFailed) 0 = .ok (.iconst 0, 1) := by decide +kernel
theorem d_Run_isAnyFailed_1 : decode (xt_code m_Run_isAnyFailed) 1 = .ok (.istore_n 1, 1) := by decide +kernel
theorem d_Run_isAnyFailed_2 : decode (xt_code m_Run_isAnyFailed) 2 = .ok (.iload_n 1, 1) := by decide +kernel
theorem d_Run_isAnyFailed_3 : decode (xt_code m_Run_isAnyFailed) 3 = .ok (.aload_n 0, 1) := by decide +kernel
theorem d_Run_isAnyFailed_4 : decode (xt_code m_Run_isAnyFailed) 4 = .ok (.getfield 27, 3) := by decide +kernel
theorem d_Run_isAnyFailed_7 : decode (xt_code m_Run_isAnyFailed) 7 = .ok (.arraylength, 1) := by decide +kernel
theorem d_Run_isAnyFailed_8 : decode (xt_code m_Run_isAnyFailed) 8 = .ok (.if_icmp .ge 24, 3) := by decide +kernel
theorem d_Run_isAnyFailed_11 : decode (xt_code m_Run_isAnyFailed) 11 = .ok (.aload_n 0, 1) := by decide +kernel
theorem d_Run_isAnyFailed_12 : decode (xt_code m_Run_isAnyFailed) 12 = .ok (.getfield 27, 3) := by decide +kernel
theorem d_Run_isAnyFailed_15 : decode (xt_code m_Run_isAnyFailed) 15 = .ok (.iload_n 1, 1) := by decide +kernel
theorem d_Run_isAnyFailed_16 : decode (xt_code m_Run_isAnyFailed) 16 = .ok (.aaload, 1) := by decide +kernel
theorem d_Run_isAnyFailed_17 : decode (xt_code m_Run_isAnyFailed) 17 = .ok (.getfield 35, 3) := by decide +kernel
theorem d_Run_isAnyFailed_20 : decode (xt_code m_Run_isAnyFailed) 20 = .ok (.iconst 4, 1) := by decide +kernel
theorem d_Run_isAnyFailed_21 : decode (xt_code m_Run_isAnyFailed) 21 = .ok (.if_icmp .ne 5, 3) := by decide +kernel
theorem d_Run_isAnyFailed_24 : decode (xt_code m_Run_isAnyFailed) 24 = .ok (.iconst 1, 1) := by decide +kernel
theorem d_Run_isAnyFailed_25 : decode (xt_code m_Run_isAnyFailed) 25 = .ok (.ireturn, 1) := by decide +kernel
theorem d_Run_isAnyFailed_26 : decode (xt_code m_Run_isAnyFailed) 26 = .ok (.iinc 1 1, 3) := by decide +kernel
theorem d_Run_isAnyFailed_29 : decode (xt_code m_Run_isAnyFailed) 29 = .ok (.goto (-27), 3) := by decide +kernel
theorem d_Run_isAnyFailed_32 : decode (xt_code m_Run_isAnyFailed) 32 = .ok (.iconst 0, 1) := by decide +kernel
theorem d_Run_isAnyFailed_33 : decode (xt_code m_Run_isAnyFailed) 33 = .ok (.ireturn, 1) := by decide +kernel
theorem d_S_has_0 : decode (xt_code m_S_has) 0 = .ok (.aload_n 0, 1) := by decide +kernel
theorem d_S_has_1 : decode (xt_code m_S_has) 1 = .ok (.iload_n 1, 1) := by decide +kernel
theorem d_S_has_2 : decode (xt_code m_S_has) 2 = .ok (.invokevirtual 98, 3) := by decide +kernel
theorem d_S_has_5 : decode (xt_code m_S_has) 5 = .ok (.astore_n 2, 1) := by decide +kernel
theorem d_S_has_6 : decode (xt_code m_S_has) 6 = .ok (.aload_n 2, 1) := by decide +kernel
theorem d_S_has_7 : decode (xt_code m_S_has) 7 = .ok (.ifnonnull 5, 3) := by decide +kernel
theorem d_S_has_10 : decode (xt_code m_S_has) 10 = .ok (.iconst (-1), 1) := by decide +kernel
theorem d_S_has_11 : decode (xt_code m_S_has) 11 = .ok (.ireturn, 1) := by decide +kernel
theorem d_S_has_12 : decode (xt_code m_S_has) 12 = .ok (.aload_n 2, 1) := by decide +kernel
theorem d_S_has_13 : decode (xt_code m_S_has) 13 = .ok (.getfield 102, 3) := by decide +kernel
theorem d_S_has_16 : decode (xt_code m_S_has) 16 = .ok (.astore_n 3, 1) := by decide +kernel
theorem d_S_has_17 : decode (xt_code m_S_has) 17 = .ok (.aload_n 3, 1) := by decide +kernel
theorem d_S_has_18 : decode (xt_code m_S_has) 18 = .ok (.ifnonnull 7, 3) := by decide +kernel
theorem d_S_has_21 : decode (xt_code m_S_has) 21 = .ok (.iconst (-1), 1) := by decide +kernel
theorem d_S_has_22 : decode (xt_code m_S_has) 22 = .ok (.goto 7, 3) := by decide +kernel
theorem d_S_has_25 : decode (xt_code m_S_has) 25 = .ok (.aload_n 3, 1) := by decide +kernel
theorem d_S_has_26 : decode (xt_code m_S_has) 26 = .ok (.invokevirtual 114, 3) := by decide +kernel
theorem d_S_has_29 : decode (xt_code m_S_has) 29 = .ok (.ireturn, 1) := by decide +kernel
theorem d_M_init_0 : decode (xt_code m_M_init) 0 = .ok (.aload_n 0, 1) := by decide +kernel
theorem d_M_init_1 : decode (xt_code m_M_init) 1 = .ok (.invokespecial 1, 3) := by decide +kernel
theorem d_M_init_4 : decode (xt_code m_M_init) 4 = .ok (.aload_n 0, 1) := by decide +kernel
theorem d_M_init_5 : decode (xt_code m_M_init) 5 = .ok (.bipush 10, 2) := by decide +kernel
theorem d_M_init_7 : decode (xt_code m_M_init) 7 = .ok (.putfield 7, 3) := by decide +kernel
theorem d_M_init_10 : decode (xt_code m_M_init) 10 = .ok (.aload_n 0, 1) := by decide +kernel
theorem d_M_init_11 : decode (xt_code m_M_init) 11 = .ok (.bipush 12, 2) := by decide +kernel
theorem d_M_init_13 : decode (xt_code m_M_init) 13 = .ok (.newarray .int, 2) := by decide +kernel
theorem d_M_init_15 : decode (xt_code m_M_init) 15 = .ok (.putfield 13, 3) := by decide +kernel
theorem d_M_init_18 : decode (xt_code m_M_init) 18 = .ok (.aload_n 0, 1) := by decide +kernel
theorem d_M_init_19 : decode (xt_code m_M_init) 19 = .ok (.bipush 12, 2) := by decide +kernel
theorem d_M_init_21 : decode (xt_code m_M_init) 21 = .ok (.newarray .int, 2) := by decide +kernel
theorem d_M_init_23 : decode (xt_code m_M_init) 23 = .ok (.putfield 17, 3) := by decide +kernel
theorem d_M_init_26 : decode (xt_code m_M_init) 26 = .ok (.aload_n 0, 1) := by decide +kernel
theorem d_M_init_27 : decode (xt_code m_M_init) 27 = .ok (.bipush 12, 2) := by decide +kernel
end
section
/-! decode rows, by program -/
theorem d_M_init_29 : decode (xt_code m_M_init) 29 = .ok (.newarray .int, 2) := by decide +kernel
theorem d_M_init_31 : decode (xt_code m_M_init) 31 = .ok (.putfield 20, 3) := by decide +kernel
theorem d_M_init_34 : decode (xt_code m_M_init) 34 = .ok (.aload_n 0, 1) := by decide +kernel
theorem d_M_init_35 : decode (xt_code m_M_init) 35 = .ok (.bipush 12, 2) := by decide +kernel
theorem d_M_init_37 : decode (xt_code m_M_init) 37 = .ok (.newarray .int, 2) := by decide +kernel
theorem d_M_init_39 : decode (xt_code m_M_init) 39 = .ok (.putfield 23, 3) := by decide +kernel
theorem d_M_init_42 : decode (xt_code m_M_init) 42 = .ok (.aload_n 0, 1) := by decide +kernel
theorem d_M_init_43 : decode (xt_code m_M_init) 43 = .ok (.bipush 12, 2) := by decide +kernel
theorem d_M_init_45 : decode (xt_code m_M_init) 45 = .ok (.newarray .boolean, 2) := by decide +kernel
theorem d_M_init_47 : decode (xt_code m_M_init) 47 = .ok (.putfield 26, 3) := by decide +kernel
theorem d_M_init_50 : decode (xt_code m_M_init) 50 = .ok (.aload_n 0, 1) := by decide +kernel
theorem d_M_init_51 : decode (xt_code m_M_init) 51 = .ok (.bipush 12, 2) := by decide +kernel
theorem d_M_init_53 : decode (xt_code m_M_init) 53 = .ok (.newarray .boolean, 2) := by decide +kernel
theorem d_M_init_55 : decode (xt_code m_M_init) 55 = .ok (.putfield 30, 3) := by decide +kernel
theorem d_M_init_58 : decode (xt_code m_M_init) 58 = .ok (.aload_n 0, 1) := by decide +kernel
theorem d_M_init_59 : decode (xt_code m_M_init) 59 = .ok (.bipush 10, 2) := by decide +kernel
theorem d_M_init_61 : decode (xt_code m_M_init) 61 = .ok (.newarray .int, 2) := by decide +kernel
theorem d_M_init_63 : decode (xt_code m_M_init) 63 = .ok (.putfield 33, 3) := by decide +kernel
theorem d_M_init_66 : decode (xt_code m_M_init) 66 = .ok (.aload_n 0, 1) := by decide +kernel
theorem d_M_init_67 : decode (xt_code m_M_init) 67 = .ok (.bipush 10, 2) := by decide +kernel
theorem d_M_init_69 : decode (xt_code m_M_init) 69 = .ok (.newarray .int, 2) := by decide +kernel
theorem d_M_init_71 : decode (xt_code m_M_init) 71 = .ok (.putfield 36, 3) := by decide +kernel
theorem d_M_init_74 : decode (xt_code m_M_init) 74 = .ok (.aload_n 0, 1) := by decide +kernel
theorem d_M_init_75 : decode (xt_code m_M_init) 75 = .ok (.bipush 10, 2) := by decide +kernel
theorem d_M_init_77 : decode (xt_code m_M_init) 77 = .ok (.newarray .boolean, 2) := by decide +kernel
theorem d_M_init_79 : decode (xt_code m_M_init) 79 = .ok (.putfield 39, 3) := by decide +kernel
theorem d_M_init_82 : decode (xt_code m_M_init) 82 = .ok (.aload_n 0, 1) := by decide +kernel
theorem d_M_init_83 : decode (xt_code m_M_init) 83 = .ok (.bipush 120, 2) := by decide +kernel
theorem d_M_init_85 : decode (xt_code m_M_init) 85 = .ok (.newarray .int, 2) := by decide +kernel
theorem d_M_init_87 : decode (xt_code m_M_init) 87 = .ok (.putfield 42, 3) := by decide +kernel
theorem d_M_init_90 : decode (xt_code m_M_init) 90 = .ok (.aload_n 0, 1) := by decide +kernel
theorem d_M_init_91 : decode (xt_code m_M_init) 91 = .ok (.bipush 120, 2) := by decide +kernel
theorem d_M_init_93 : decode (xt_code m_M_init) 93 = .ok (.newarray .int, 2) := by decide +kernel
theorem d_M_init_95 : decode (xt_code m_M_init) 95 = .ok (.putfield 45, 3) := by decide +kernel
theorem d_M_init_98 : decode (xt_code m_M_init) 98 = .ok (.aload_n 0, 1) := by decide +kernel
theorem d_M_init_99 : decode (xt_code m_M_init) 99 = .ok (.bipush 120, 2) := by decide +kernel
theorem d_M_init_101 : decode (xt_code m_M_init) 101 = .ok (.newarray .int, 2) := by decide +kernel
theorem d_M_init_103 : decode (xt_code m_M_init) 103 = .ok (.putfield 48, 3) := by decide +kernel
theorem d_M_init_106 : decode (xt_code m_M_init) 106 = .ok (.aload_n 0, 1) := by decide +kernel
theorem d_M_init_107 : decode (xt_code m_M_init) 107 = .ok (.bipush 120, 2) := by decide +kernel
theorem d_M_init_109 : decode (xt_code m_M_init) 109 = .ok (.newarray .int, 2) := by decide +kernel
theorem d_M_init_111 : decode (xt_code m_M_init) 111 = .ok (.putfield 51, 3) := by decide +kernel
theorem d_M_init_114 : decode (xt_code m_M_init) 114 = .ok (.aload_n 0, 1) := by decide +kernel
theorem d_M_init_115 : decode (xt_code m_M_init) 115 = .ok (.bipush 120, 2) := by decide +kernel
theorem d_M_init_117 : decode (xt_code m_M_init) 117 = .ok (.newarray .int, 2) := by decide +kernel
theorem d_M_init_119 : decode (xt_code m_M_init) 119 = .ok (.putfield 54, 3) := by decide +kernel
theorem d_M_init_122 : decode (xt_code m_M_init) 122 = .ok (.aload_n 0, 1) := by decide +kernel
theorem d_M_init_123 : decode (xt_code m_M_init) 123 = .ok (.bipush 120, 2) := by decide +kernel
theorem d_M_init_125 : decode (xt_code m_M_init) 125 = .ok (.newarray .int, 2) := by decide +kernel
theorem d_M_init_127 : decode (xt_code m_M_init) 127 = .ok (.putfield 57, 3) := by decide +kernel
theorem d_M_init_130 : decode (xt_code m_M_init) 130 = .ok (.aload_n 0, 1) := by decide +kernel
theorem d_M_init_131 : decode (xt_code m_M_init) 131 = .ok (.bipush 120, 2) := by decide +kernel
theorem d_M_init_133 : decode (xt_code m_M_init) 133 = .ok (.newarray .int, 2) := by decide +kernel
theorem d_M_init_135 : decode (xt_code m_M_init) 135 = .ok (.putfield 60, 3) := by decide +kernel
theorem d_M_init_138 : decode (xt_code m_M_init) 138 = .ok (.aload_n 0, 1) := by decide +kernel
theorem d_M_init_139 : decode (xt_code m_M_init) 139 = .ok (.bipush 120, 2) := by decide +kernel
theorem d_M_init_141 : decode (xt_code m_M_init) 141 = .ok (.newarray .int, 2) := by decide +kernel
theorem d_M_init_143 : decode (xt_code m_M_init) 143 = .ok (.putfield 63, 3) := by decide +kernel
theorem d_M_init_146 : decode (xt_code m_M_init) 146 = .ok (.aload_n 0, 1) := by decide +kernel
theorem d_M_init_147 : decode (xt_code m_M_init) 147 = .ok (.bipush 6, 2) := by decide +kernel
theorem d_M_init_149 : decode (xt_code m_M_init) 149 = .ok (.newarray .int, 2) := by decide +kernel
theorem d_M_init_151 : decode (xt_code m_M_init) 151 = .ok (.putfield 66, 3) := by decide +kernel
theorem d_M_init_154 : decode (xt_code m_M_init) 154 = .ok (.aload_n 0, 1) := by decide +kernel
theorem d_M_init_155 : decode (xt_code m_M_init) 155 = .ok (.bipush 6, 2) := by decide +kernel
theorem d_M_init_157 : decode (xt_code m_M_init) 157 = .ok (.newarray .int, 2) := by decide +kernel
theorem d_M_init_159 : decode (xt_code m_M_init) 159 = .ok (.putfield 69, 3) := by decide +kernel
theorem d_M_init_162 : decode (xt_code m_M_init) 162 = .ok (.aload_n 0, 1) := by decide +kernel
theorem d_M_init_163 : decode (xt_code m_M_init) 163 = .ok (.bipush 6, 2) := by decide +kernel
theorem d_M_init_165 : decode (xt_code m_M_init) 165 = .ok (.newarray .int, 2) := by decide +kernel
theorem d_M_init_167 : decode (xt_code m_M_init) 167 = .ok (.putfield 72, 3) := by decide +kernel
theorem d_M_init_170 : decode (xt_code m_M_init) 170 = .ok (.return_, 1) := by decide +kernel
theorem d_M_job_0 : decode (xt_code m_M_job) 0 = .ok (.aload_n 0, 1) := by decide +kernel
theorem d_M_job_1 : decode (xt_code m_M_job) 1 = .ok (.iconst 0, 1) := by decide +kernel
theorem d_M_job_2 : decode (xt_code m_M_job) 2 = .ok (.putfield 75, 3) := by decide +kernel
theorem d_M_job_5 : decode (xt_code m_M_job) 5 = .ok (.aload_n 0, 1) := by decide +kernel
theorem d_M_job_6 : decode (xt_code m_M_job) 6 = .ok (.getfield 78, 3) := by decide +kernel
theorem d_M_job_9 : decode (xt_code m_M_job) 9 = .ok (.bipush 12, 2) := by decide +kernel
theorem d_M_job_11 : decode (xt_code m_M_job) 11 = .ok (.if_icmp .eq 23, 3) := by decide +kernel
theorem d_M_job_14 : decode (xt_code m_M_job) 14 = .ok (.aload_n 0, 1) := by decide +kernel
theorem d_M_job_15 : decode (xt_code m_M_job) 15 = .ok (.getfield 81, 3) := by decide +kernel
theorem d_M_job_18 : decode (xt_code m_M_job) 18 = .ok (.ifCond .gt 16, 3) := by decide +kernel
theorem d_M_job_21 : decode (xt_code m_M_job) 21 = .ok (.iload_n 2, 1) := by decide +kernel
theorem d_M_job_22 : decode (xt_code m_M_job) 22 = .ok (.ifCond .lt 12, 3) := by decide +kernel
theorem d_M_job_25 : decode (xt_code m_M_job) 25 = .ok (.iload_n 3, 1) := by decide +kernel
theorem d_M_job_26 : decode (xt_code m_M_job) 26 = .ok (.ifCond .lt 8, 3) := by decide +kernel
theorem d_M_job_29 : decode (xt_code m_M_job) 29 = .ok (.iload_n 3, 1) := by decide +kernel
theorem d_M_job_30 : decode (xt_code m_M_job) 30 = .ok (.iconst 3, 1) := by decide +kernel
theorem d_M_job_31 : decode (xt_code m_M_job) 31 = .ok (.if_icmp .le 5, 3) := by decide +kernel
theorem d_M_job_34 : decode (xt_code m_M_job) 34 = .ok (.iconst (-1), 1) := by decide +kernel
theorem d_M_job_35 : decode (xt_code m_M_job) 35 = .ok (.ireturn, 1) := by decide +kernel
theorem d_M_job_36 : decode (xt_code m_M_job) 36 = .ok (.aload_n 0, 1) := by decide +kernel
theorem d_M_job_37 : decode (xt_code m_M_job) 37 = .ok (.getfield 13, 3) := by decide +kernel
theorem d_M_job_40 : decode (xt_code m_M_job) 40 = .ok (.aload_n 0, 1) := by decide +kernel
theorem d_M_job_41 : decode (xt_code m_M_job) 41 = .ok (.getfield 78, 3) := by decide +kernel
theorem d_M_job_44 : decode (xt_code m_M_job) 44 = .ok (.iload_n 1, 1) := by decide +kernel
theorem d_M_job_45 : decode (xt_code m_M_job) 45 = .ok (.sipush 255, 3) := by decide +kernel
theorem d_M_job_48 : decode (xt_code m_M_job) 48 = .ok (.iand, 1) := by decide +kernel
theorem d_M_job_49 : decode (xt_code m_M_job) 49 = .ok (.iastore, 1) := by decide +kernel
theorem d_M_job_50 : decode (xt_code m_M_job) 50 = .ok (.aload_n 0, 1) := by decide +kernel
theorem d_M_job_51 : decode (xt_code m_M_job) 51 = .ok (.getfield 17, 3) := by decide +kernel
theorem d_M_job_54 : decode (xt_code m_M_job) 54 = .ok (.aload_n 0, 1) := by decide +kernel
theorem d_M_job_55 : decode (xt_code m_M_job) 55 = .ok (.getfield 78, 3) := by decide +kernel
theorem d_M_job_58 : decode (xt_code m_M_job) 58 = .ok (.iload_n 2, 1) := by decide +kernel
theorem d_M_job_59 : decode (xt_code m_M_job) 59 = .ok (.iastore, 1) := by decide +kernel
theorem d_M_job_60 : decode (xt_code m_M_job) 60 = .ok (.aload_n 0, 1) := by decide +kernel
theorem d_M_job_61 : decode (xt_code m_M_job) 61 = .ok (.getfield 20, 3) := by decide +kernel
theorem d_M_job_64 : decode (xt_code m_M_job) 64 = .ok (.aload_n 0, 1) := by decide +kernel
theorem d_M_job_65 : decode (xt_code m_M_job) 65 = .ok (.getfield 78, 3) := by decide +kernel
theorem d_M_job_68 : decode (xt_code m_M_job) 68 = .ok (.iload_n 3, 1) := by decide +kernel
theorem d_M_job_69 : decode (xt_code m_M_job) 69 = .ok (.iastore, 1) := by decide +kernel
theorem d_M_job_70 : decode (xt_code m_M_job) 70 = .ok (.aload_n 0, 1) := by decide +kernel
theorem d_M_job_71 : decode (xt_code m_M_job) 71 = .ok (.getfield 26, 3) := by decide +kernel
theorem d_M_job_74 : decode (xt_code m_M_job) 74 = .ok (.aload_n 0, 1) := by decide +kernel
theorem d_M_job_75 : decode (xt_code m_M_job) 75 = .ok (.getfield 78, 3) := by decide +kernel
theorem d_M_job_78 : decode (xt_code m_M_job) 78 = .ok (.iload 4, 2) := by decide +kernel
theorem d_M_job_80 : decode (xt_code m_M_job) 80 = .ok (.bastore, 1) := by decide +kernel
theorem d_M_job_81 : decode (xt_code m_M_job) 81 = .ok (.aload_n 0, 1) := by decide +kernel
theorem d_M_job_82 : decode (xt_code m_M_job) 82 = .ok (.getfield 30, 3) := by decide +kernel
theorem d_M_job_85 : decode (xt_code m_M_job) 85 = .ok (.aload_n 0, 1) := by decide +kernel
theorem d_M_job_86 : decode (xt_code m_M_job) 86 = .ok (.getfield 78, 3) := by decide +kernel
theorem d_M_job_89 : decode (xt_code m_M_job) 89 = .ok (.iload 5, 2) := by decide +kernel
theorem d_M_job_91 : decode (xt_code m_M_job) 91 = .ok (.bastore, 1) := by decide +kernel
theorem d_M_job_92 : decode (xt_code m_M_job) 92 = .ok (.aload_n 0, 1) := by decide +kernel
theorem d_M_job_93 : decode (xt_code m_M_job) 93 = .ok (.dup, 1) := by decide +kernel
theorem d_M_job_94 : decode (xt_code m_M_job) 94 = .ok (.getfield 78, 3) := by decide +kernel
theorem d_M_job_97 : decode (xt_code m_M_job) 97 = .ok (.iconst 1, 1) := by decide +kernel
theorem d_M_job_98 : decode (xt_code m_M_job) 98 = .ok (.iadd, 1) := by decide +kernel
theorem d_M_job_99 : decode (xt_code m_M_job) 99 = .ok (.putfield 78, 3) := by decide +kernel
theorem d_M_job_102 : decode (xt_code m_M_job) 102 = .ok (.aload_n 0, 1) := by decide +kernel
theorem d_M_job_103 : decode (xt_code m_M_job) 103 = .ok (.getfield 78, 3) := by decide +kernel
theorem d_M_job_106 : decode (xt_code m_M_job) 106 = .ok (.iconst 1, 1) := by decide +kernel
theorem d_M_job_107 : decode (xt_code m_M_job) 107 = .ok (.isub, 1) := by decide +kernel
theorem d_M_job_108 : decode (xt_code m_M_job) 108 = .ok (.ireturn, 1) := by decide +kernel
theorem d_M_needs_0 : decode (xt_code m_M_needs) 0 = .ok (.aload_n 0, 1) := by decide +kernel
theorem d_M_needs_1 : decode (xt_code m_M_needs) 1 = .ok (.iconst 0, 1) := by decide +kernel
theorem d_M_needs_2 : decode (xt_code m_M_needs) 2 = .ok (.putfield 75, 3) := by decide +kernel
theorem d_M_needs_5 : decode (xt_code m_M_needs) 5 = .ok (.aload_n 0, 1) := by decide +kernel
theorem d_M_needs_6 : decode (xt_code m_M_needs) 6 = .ok (.iload_n 1, 1) := by decide +kernel
theorem d_M_needs_7 : decode (xt_code m_M_needs) 7 = .ok (.invokevirtual 87, 3) := by decide +kernel
theorem d_M_needs_10 : decode (xt_code m_M_needs) 10 = .ok (.ifCond .eq 33, 3) := by decide +kernel
theorem d_M_needs_13 : decode (xt_code m_M_needs) 13 = .ok (.iload_n 2, 1) := by decide +kernel
theorem d_M_needs_14 : decode (xt_code m_M_needs) 14 = .ok (.ifCond .lt 29, 3) := by decide +kernel
theorem d_M_needs_17 : decode (xt_code m_M_needs) 17 = .ok (.iload_n 2, 1) := by decide +kernel
theorem d_M_needs_18 : decode (xt_code m_M_needs) 18 = .ok (.iload_n 1, 1) := by decide +kernel
theorem d_M_needs_19 : decode (xt_code m_M_needs) 19 = .ok (.if_icmp .ge 24, 3) := by decide +kernel
theorem d_M_needs_22 : decode (xt_code m_M_needs) 22 = .ok (.aload_n 0, 1) := by decide +kernel
theorem d_M_needs_23 : decode (xt_code m_M_needs) 23 = .ok (.getfield 23, 3) := by decide +kernel
theorem d_M_needs_26 : decode (xt_code m_M_needs) 26 = .ok (.iload_n 1, 1) := by decide +kernel
theorem d_M_needs_27 : decode (xt_code m_M_needs) 27 = .ok (.iaload, 1) := by decide +kernel
theorem d_M_needs_28 : decode (xt_code m_M_needs) 28 = .ok (.iload_n 2, 1) := by decide +kernel
theorem d_M_needs_29 : decode (xt_code m_M_needs) 29 = .ok (.ishr, 1) := by decide +kernel
theorem d_M_needs_30 : decode (xt_code m_M_needs) 30 = .ok (.iconst 1, 1) := by decide +kernel
theorem d_M_needs_31 : decode (xt_code m_M_needs) 31 = .ok (.iand, 1) := by decide +kernel
theorem d_M_needs_32 : decode (xt_code m_M_needs) 32 = .ok (.iconst 1, 1) := by decide +kernel
theorem d_M_needs_33 : decode (xt_code m_M_needs) 33 = .ok (.if_icmp .eq 10, 3) := by decide +kernel
theorem d_M_needs_36 : decode (xt_code m_M_needs) 36 = .ok (.aload_n 0, 1) := by decide +kernel
theorem d_M_needs_37 : decode (xt_code m_M_needs) 37 = .ok (.getfield 81, 3) := by decide +kernel
theorem d_M_needs_40 : decode (xt_code m_M_needs) 40 = .ok (.ifCond .le 5, 3) := by decide +kernel
theorem d_M_needs_43 : decode (xt_code m_M_needs) 43 = .ok (.iconst 0, 1) := by decide +kernel
theorem d_M_needs_44 : decode (xt_code m_M_needs) 44 = .ok (.ireturn, 1) := by decide +kernel
theorem d_M_needs_45 : decode (xt_code m_M_needs) 45 = .ok (.aload_n 0, 1) := by decide +kernel
theorem d_M_needs_46 : decode (xt_code m_M_needs) 46 = .ok (.getfield 23, 3) := by decide +kernel
theorem d_M_needs_49 : decode (xt_code m_M_needs) 49 = .ok (.iload_n 1, 1) := by decide +kernel
theorem d_M_needs_50 : decode (xt_code m_M_needs) 50 = .ok (.dup2, 1) := by decide +kernel
theorem d_M_needs_51 : decode (xt_code m_M_needs) 51 = .ok (.iaload, 1) := by decide +kernel
theorem d_M_needs_52 : decode (xt_code m_M_needs) 52 = .ok (.iconst 1, 1) := by decide +kernel
theorem d_M_needs_53 : decode (xt_code m_M_needs) 53 = .ok (.iload_n 2, 1) := by decide +kernel
theorem d_M_needs_54 : decode (xt_code m_M_needs) 54 = .ok (.ishl, 1) := by decide +kernel
theorem d_M_needs_55 : decode (xt_code m_M_needs) 55 = .ok (.ior, 1) := by decide +kernel
theorem d_M_needs_56 : decode (xt_code m_M_needs) 56 = .ok (.iastore, 1) := by decide +kernel
theorem d_M_needs_57 : decode (xt_code m_M_needs) 57 = .ok (.iconst 1, 1) := by decide +kernel
theorem d_M_needs_58 : decode (xt_code m_M_needs) 58 = .ok (.ireturn, 1) := by decide +kernel
theorem d_M_isJob_0 : decode (xt_code m_M_isJob) 0 = .ok (.iload_n 1, 1) := by decide +kernel
theorem d_M_isJob_1 : decode (xt_code m_M_isJob) 1 = .ok (.ifCond .lt 15, 3) := by decide +kernel
theorem d_M_isJob_4 : decode (xt_code m_M_isJob) 4 = .ok (.iload_n 1, 1) := by decide +kernel
theorem d_M_isJob_5 : decode (xt_code m_M_isJob) 5 = .ok (.aload_n 0, 1) := by decide +kernel
theorem d_M_isJob_6 : decode (xt_code m_M_isJob) 6 = .ok (.getfield 78, 3) := by decide +kernel
theorem d_M_isJob_9 : decode (xt_code m_M_isJob) 9 = .ok (.if_icmp .ge 7, 3) := by decide +kernel
theorem d_M_isJob_12 : decode (xt_code m_M_isJob) 12 = .ok (.iconst 1, 1) := by decide +kernel
theorem d_M_isJob_13 : decode (xt_code m_M_isJob) 13 = .ok (.goto 4, 3) := by decide +kernel
theorem d_M_isJob_16 : decode (xt_code m_M_isJob) 16 = .ok (.iconst 0, 1) := by decide +kernel
theorem d_M_isJob_17 : decode (xt_code m_M_isJob) 17 = .ok (.ireturn, 1) := by decide +kernel
theorem d_M_runner_0 : decode (xt_code m_M_runner) 0 = .ok (.aload_n 0, 1) := by decide +kernel
theorem d_M_runner_1 : decode (xt_code m_M_runner) 1 = .ok (.iconst 0, 1) := by decide +kernel
theorem d_M_runner_2 : decode (xt_code m_M_runner) 2 = .ok (.putfield 75, 3) := by decide +kernel
theorem d_M_runner_5 : decode (xt_code m_M_runner) 5 = .ok (.aload_n 0, 1) := by decide +kernel
theorem d_M_runner_6 : decode (xt_code m_M_runner) 6 = .ok (.getfield 84, 3) := by decide +kernel
theorem d_M_runner_9 : decode (xt_code m_M_runner) 9 = .ok (.bipush 6, 2) := by decide +kernel
theorem d_M_runner_11 : decode (xt_code m_M_runner) 11 = .ok (.if_icmp .ne 5, 3) := by decide +kernel
theorem d_M_runner_14 : decode (xt_code m_M_runner) 14 = .ok (.iconst (-1), 1) := by decide +kernel
theorem d_M_runner_15 : decode (xt_code m_M_runner) 15 = .ok (.ireturn, 1) := by decide +kernel
theorem d_M_runner_16 : decode (xt_code m_M_runner) 16 = .ok (.aload_n 0, 1) := by decide +kernel
theorem d_M_runner_17 : decode (xt_code m_M_runner) 17 = .ok (.getfield 66, 3) := by decide +kernel
theorem d_M_runner_20 : decode (xt_code m_M_runner) 20 = .ok (.aload_n 0, 1) := by decide +kernel
theorem d_M_runner_21 : decode (xt_code m_M_runner) 21 = .ok (.getfield 84, 3) := by decide +kernel
theorem d_M_runner_24 : decode (xt_code m_M_runner) 24 = .ok (.iload_n 1, 1) := by decide +kernel
theorem d_M_runner_25 : decode (xt_code m_M_runner) 25 = .ok (.sipush 255, 3) := by decide +kernel
theorem d_M_runner_28 : decode (xt_code m_M_runner) 28 = .ok (.iand, 1) := by decide +kernel
theorem d_M_runner_29 : decode (xt_code m_M_runner) 29 = .ok (.iastore, 1) := by decide +kernel
theorem d_M_runner_30 : decode (xt_code m_M_runner) 30 = .ok (.aload_n 0, 1) := by decide +kernel
theorem d_M_runner_31 : decode (xt_code m_M_runner) 31 = .ok (.getfield 69, 3) := by decide +kernel
theorem d_M_runner_34 : decode (xt_code m_M_runner) 34 = .ok (.aload_n 0, 1) := by decide +kernel
theorem d_M_runner_35 : decode (xt_code m_M_runner) 35 = .ok (.getfield 84, 3) := by decide +kernel
theorem d_M_runner_38 : decode (xt_code m_M_runner) 38 = .ok (.aload_n 0, 1) := by decide +kernel
theorem d_M_runner_39 : decode (xt_code m_M_runner) 39 = .ok (.getfield 91, 3) := by decide +kernel
theorem d_M_runner_42 : decode (xt_code m_M_runner) 42 = .ok (.iastore, 1) := by decide +kernel
theorem d_M_runner_43 : decode (xt_code m_M_runner) 43 = .ok (.aload_n 0, 1) := by decide +kernel
theorem d_M_runner_44 : decode (xt_code m_M_runner) 44 = .ok (.getfield 72, 3) := by decide +kernel
theorem d_M_runner_47 : decode (xt_code m_M_runner) 47 = .ok (.aload_n 0, 1) := by decide +kernel
theorem d_M_runner_48 : decode (xt_code m_M_runner) 48 = .ok (.getfield 84, 3) := by decide +kernel
theorem d_M_runner_51 : decode (xt_code m_M_runner) 51 = .ok (.iconst (-1), 1) := by decide +kernel
theorem d_M_runner_52 : decode (xt_code m_M_runner) 52 = .ok (.iastore, 1) := by decide +kernel
theorem d_M_runner_53 : decode (xt_code m_M_runner) 53 = .ok (.aload_n 0, 1) := by decide +kernel
theorem d_M_runner_54 : decode (xt_code m_M_runner) 54 = .ok (.dup, 1) := by decide +kernel
theorem d_M_runner_55 : decode (xt_code m_M_runner) 55 = .ok (.getfield 84, 3) := by decide +kernel
theorem d_M_runner_58 : decode (xt_code m_M_runner) 58 = .ok (.iconst 1, 1) := by decide +kernel
theorem d_M_runner_59 : decode (xt_code m_M_runner) 59 = .ok (.iadd, 1) := by decide +kernel
theorem d_M_runner_60 : decode (xt_code m_M_runner) 60 = .ok (.putfield 84, 3) := by decide +kernel
theorem d_M_runner_63 : decode (xt_code m_M_runner) 63 = .ok (.aload_n 0, 1) := by decide +kernel
theorem d_M_runner_64 : decode (xt_code m_M_runner) 64 = .ok (.getfield 84, 3) := by decide +kernel
theorem d_M_runner_67 : decode (xt_code m_M_runner) 67 = .ok (.iconst 1, 1) := by decide +kernel
theorem d_M_runner_68 : decode (xt_code m_M_runner) 68 = .ok (.isub, 1) := by decide +kernel
theorem d_M_runner_69 : decode (xt_code m_M_runner) 69 = .ok (.ireturn, 1) := by decide +kernel
theorem d_M_lost_0 : decode (xt_code m_M_lost) 0 = .ok (.aload_n 0, 1) := by decide +kernel
theorem d_M_lost_1 : decode (xt_code m_M_lost) 1 = .ok (.iconst 0, 1) := by decide +kernel
theorem d_M_lost_2 : decode (xt_code m_M_lost) 2 = .ok (.putfield 75, 3) := by decide +kernel
theorem d_M_lost_5 : decode (xt_code m_M_lost) 5 = .ok (.iload_n 1, 1) := by decide +kernel
theorem d_M_lost_6 : decode (xt_code m_M_lost) 6 = .ok (.iconst 1, 1) := by decide +kernel
theorem d_M_lost_7 : decode (xt_code m_M_lost) 7 = .ok (.if_icmp .lt 9, 3) := by decide +kernel
theorem d_M_lost_10 : decode (xt_code m_M_lost) 10 = .ok (.iload_n 1, 1) := by decide +kernel
theorem d_M_lost_11 : decode (xt_code m_M_lost) 11 = .ok (.bipush 100, 2) := by decide +kernel
theorem d_M_lost_13 : decode (xt_code m_M_lost) 13 = .ok (.if_icmp .le 5, 3) := by decide +kernel
theorem d_M_lost_16 : decode (xt_code m_M_lost) 16 = .ok (.iconst 0, 1) := by decide +kernel
theorem d_M_lost_17 : decode (xt_code m_M_lost) 17 = .ok (.ireturn, 1) := by decide +kernel
theorem d_M_lost_18 : decode (xt_code m_M_lost) 18 = .ok (.aload_n 0, 1) := by decide +kernel
theorem d_M_lost_19 : decode (xt_code m_M_lost) 19 = .ok (.iload_n 1, 1) := by decide +kernel
theorem d_M_lost_20 : decode (xt_code m_M_lost) 20 = .ok (.putfield 7, 3) := by decide +kernel
theorem d_M_lost_23 : decode (xt_code m_M_lost) 23 = .ok (.iconst 1, 1) := by decide +kernel
theorem d_M_lost_24 : decode (xt_code m_M_lost) 24 = .ok (.ireturn, 1) := by decide +kernel
theorem d_M_trigger_0 : decode (xt_code m_M_trigger) 0 = .ok (.aload_n 0, 1) := by decide +kernel
theorem d_M_trigger_1 : decode (xt_code m_M_trigger) 1 = .ok (.iconst 0, 1) := by decide +kernel
theorem d_M_trigger_2 : decode (xt_code m_M_trigger) 2 = .ok (.putfield 75, 3) := by decide +kernel
theorem d_M_trigger_5 : decode (xt_code m_M_trigger) 5 = .ok (.aload_n 0, 1) := by decide +kernel
theorem d_M_trigger_6 : decode (xt_code m_M_trigger) 6 = .ok (.getfield 81, 3) := by decide +kernel
theorem d_M_trigger_9 : decode (xt_code m_M_trigger) 9 = .ok (.bipush 10, 2) := by decide +kernel
theorem d_M_trigger_11 : decode (xt_code m_M_trigger) 11 = .ok (.if_icmp .eq 23, 3) := by decide +kernel
theorem d_M_trigger_14 : decode (xt_code m_M_trigger) 14 = .ok (.iload_n 1, 1) := by decide +kernel
theorem d_M_trigger_15 : decode (xt_code m_M_trigger) 15 = .ok (.ifCond .lt 19, 3) := by decide +kernel
theorem d_M_trigger_18 : decode (xt_code m_M_trigger) 18 = .ok (.iload_n 1, 1) := by decide +kernel
theorem d_M_trigger_19 : decode (xt_code m_M_trigger) 19 = .ok (.bipush 8, 2) := by decide +kernel
theorem d_M_trigger_21 : decode (xt_code m_M_trigger) 21 = .ok (.if_icmp .ge 13, 3) := by decide +kernel
theorem d_M_trigger_24 : decode (xt_code m_M_trigger) 24 = .ok (.iload_n 2, 1) := by decide +kernel
theorem d_M_trigger_25 : decode (xt_code m_M_trigger) 25 = .ok (.iconst (-1), 1) := by decide +kernel
theorem d_M_trigger_26 : decode (xt_code m_M_trigger) 26 = .ok (.if_icmp .lt 8, 3) := by decide +kernel
theorem d_M_trigger_29 : decode (xt_code m_M_trigger) 29 = .ok (.iload_n 2, 1) := by decide +kernel
theorem d_M_trigger_30 : decode (xt_code m_M_trigger) 30 = .ok (.iconst 4, 1) := by decide +kernel
theorem d_M_trigger_31 : decode (xt_code m_M_trigger) 31 = .ok (.if_icmp .lt 5, 3) := by decide +kernel
theorem d_M_trigger_34 : decode (xt_code m_M_trigger) 34 = .ok (.iconst (-1), 1) := by decide +kernel
theorem d_M_trigger_35 : decode (xt_code m_M_trigger) 35 = .ok (.ireturn, 1) := by decide +kernel
theorem d_M_trigger_36 : decode (xt_code m_M_trigger) 36 = .ok (.iconst 0, 1) := by decide +kernel
theorem d_M_trigger_37 : decode (xt_code m_M_trigger) 37 = .ok (.istore_n 3, 1) := by decide +kernel
theorem d_M_trigger_38 : decode (xt_code m_M_trigger) 38 = .ok (.iload_n 3, 1) := by decide +kernel
theorem d_M_trigger_39 : decode (xt_code m_M_trigger) 39 = .ok (.aload_n 0, 1) := by decide +kernel
theorem d_M_trigger_40 : decode (xt_code m_M_trigger) 40 = .ok (.getfield 81, 3) := by decide +kernel
theorem d_M_trigger_43 : decode (xt_code m_M_trigger) 43 = .ok (.if_icmp .ge 37, 3) := by decide +kernel
theorem d_M_trigger_46 : decode (xt_code m_M_trigger) 46 = .ok (.iload_n 2, 1) := by decide +kernel
theorem d_M_trigger_47 : decode (xt_code m_M_trigger) 47 = .ok (.iconst (-1), 1) := by decide +kernel
theorem d_M_trigger_48 : decode (xt_code m_M_trigger) 48 = .ok (.if_icmp .eq 26, 3) := by decide +kernel
theorem d_M_trigger_51 : decode (xt_code m_M_trigger) 51 = .ok (.aload_n 0, 1) := by decide +kernel
theorem d_M_trigger_52 : decode (xt_code m_M_trigger) 52 = .ok (.getfield 36, 3) := by decide +kernel
theorem d_M_trigger_55 : decode (xt_code m_M_trigger) 55 = .ok (.iload_n 3, 1) := by decide +kernel
theorem d_M_trigger_56 : decode (xt_code m_M_trigger) 56 = .ok (.iaload, 1) := by decide +kernel
theorem d_M_trigger_57 : decode (xt_code m_M_trigger) 57 = .ok (.iload_n 2, 1) := by decide +kernel
theorem d_M_trigger_58 : decode (xt_code m_M_trigger) 58 = .ok (.if_icmp .ne 16, 3) := by decide +kernel
theorem d_M_trigger_61 : decode (xt_code m_M_trigger) 61 = .ok (.aload_n 0, 1) := by decide +kernel
theorem d_M_trigger_62 : decode (xt_code m_M_trigger) 62 = .ok (.iload_n 3, 1) := by decide +kernel
theorem d_M_trigger_63 : decode (xt_code m_M_trigger) 63 = .ok (.invokevirtual 108, 3) := by decide +kernel
theorem d_M_trigger_66 : decode (xt_code m_M_trigger) 66 = .ok (.ifCond .ne 8, 3) := by decide +kernel
theorem d_M_trigger_69 : decode (xt_code m_M_trigger) 69 = .ok (.aload_n 0, 1) := by decide +kernel
theorem d_M_trigger_70 : decode (xt_code m_M_trigger) 70 = .ok (.iload_n 3, 1) := by decide +kernel
theorem d_M_trigger_71 : decode (xt_code m_M_trigger) 71 = .ok (.invokevirtual 111, 3) := by decide +kernel
theorem d_M_trigger_74 : decode (xt_code m_M_trigger) 74 = .ok (.iinc 3 1, 3) := by decide +kernel
theorem d_M_trigger_77 : decode (xt_code m_M_trigger) 77 = .ok (.goto (-39), 3) := by decide +kernel
theorem d_M_trigger_80 : decode (xt_code m_M_trigger) 80 = .ok (.aload_n 0, 1) := by decide +kernel
theorem d_M_trigger_81 : decode (xt_code m_M_trigger) 81 = .ok (.getfield 33, 3) := by decide +kernel
theorem d_M_trigger_84 : decode (xt_code m_M_trigger) 84 = .ok (.aload_n 0, 1) := by decide +kernel
theorem d_M_trigger_85 : decode (xt_code m_M_trigger) 85 = .ok (.getfield 81, 3) := by decide +kernel
theorem d_M_trigger_88 : decode (xt_code m_M_trigger) 88 = .ok (.iload_n 1, 1) := by decide +kernel
theorem d_M_trigger_89 : decode (xt_code m_M_trigger) 89 = .ok (.iastore, 1) := by decide +kernel
theorem d_M_trigger_90 : decode (xt_code m_M_trigger) 90 = .ok (.aload_n 0, 1) := by decide +kernel
theorem d_M_trigger_91 : decode (xt_code m_M_trigger) 91 = .ok (.getfield 36, 3) := by decide +kernel
theorem d_M_trigger_94 : decode (xt_code m_M_trigger) 94 = .ok (.aload_n 0, 1) := by decide +kernel
theorem d_M_trigger_95 : decode (xt_code m_M_trigger) 95 = .ok (.getfield 81, 3) := by decide +kernel
theorem d_M_trigger_98 : decode (xt_code m_M_trigger) 98 = .ok (.iload_n 2, 1) := by decide +kernel
theorem d_M_trigger_99 : decode (xt_code m_M_trigger) 99 = .ok (.iastore, 1) := by decide +kernel
theorem d_M_trigger_100 : decode (xt_code m_M_trigger) 100 = .ok (.aload_n 0, 1) := by decide +kernel
theorem d_M_trigger_101 : decode (xt_code m_M_trigger) 101 = .ok (.dup, 1) := by decide +kernel
theorem d_M_trigger_102 : decode (xt_code m_M_trigger) 102 = .ok (.getfield 81, 3) := by decide +kernel
theorem d_M_trigger_105 : decode (xt_code m_M_trigger) 105 = .ok (.iconst 1, 1) := by decide +kernel
theorem d_M_trigger_106 : decode (xt_code m_M_trigger) 106 = .ok (.iadd, 1) := by decide +kernel
theorem d_M_trigger_107 : decode (xt_code m_M_trigger) 107 = .ok (.putfield 81, 3) := by decide +kernel
theorem d_M_trigger_110 : decode (xt_code m_M_trigger) 110 = .ok (.aload_n 0, 1) := by decide +kernel
theorem d_M_trigger_111 : decode (xt_code m_M_trigger) 111 = .ok (.invokevirtual 114, 3) := by decide +kernel
theorem d_M_trigger_114 : decode (xt_code m_M_trigger) 114 = .ok (.aload_n 0, 1) := by decide +kernel
theorem d_M_trigger_115 : decode (xt_code m_M_trigger) 115 = .ok (.getfield 81, 3) := by decide +kernel
theorem d_M_trigger_118 : decode (xt_code m_M_trigger) 118 = .ok (.iconst 1, 1) := by decide +kernel
theorem d_M_trigger_119 : decode (xt_code m_M_trigger) 119 = .ok (.isub, 1) := by decide +kernel
theorem d_M_trigger_120 : decode (xt_code m_M_trigger) 120 = .ok (.ireturn, 1) := by decide +kernel
theorem d_M_isOver_0 : decode (xt_code m_M_isOver) 0 = .ok (.iconst 1, 1) := by decide +kernel
theorem d_M_isOver_1 : decode (xt_code m_M_isOver) 1 = .ok (.istore_n 2, 1) := by decide +kernel
theorem d_M_isOver_2 : decode (xt_code m_M_isOver) 2 = .ok (.iconst 0, 1) := by decide +kernel
theorem d_M_isOver_3 : decode (xt_code m_M_isOver) 3 = .ok (.istore_n 3, 1) := by decide +kernel
theorem d_M_isOver_4 : decode (xt_code m_M_isOver) 4 = .ok (.iload_n 3, 1) := by decide +kernel
theorem d_M_isOver_5 : decode (xt_code m_M_isOver) 5 = .ok (.aload_n 0, 1) := by decide +kernel
theorem d_M_isOver_6 : decode (xt_code m_M_isOver) 6 = .ok (.getfield 78, 3) := by decide +kernel
theorem d_M_isOver_9 : decode (xt_code m_M_isOver) 9 = .ok (.if_icmp .ge 36, 3) := by decide +kernel
theorem d_M_isOver_12 : decode (xt_code m_M_isOver) 12 = .ok (.iload_n 2, 1) := by decide +kernel
theorem d_M_isOver_13 : decode (xt_code m_M_isOver) 13 = .ok (.ifCond .eq 24, 3) := by decide +kernel
theorem d_M_isOver_16 : decode (xt_code m_M_isOver) 16 = .ok (.aload_n 0, 1) := by decide +kernel
theorem d_M_isOver_17 : decode (xt_code m_M_isOver) 17 = .ok (.getfield 42, 3) := by decide +kernel
theorem d_M_isOver_20 : decode (xt_code m_M_isOver) 20 = .ok (.bipush 12, 2) := by decide +kernel
theorem d_M_isOver_22 : decode (xt_code m_M_isOver) 22 = .ok (.iload_n 1, 1) := by decide +kernel
theorem d_M_isOver_23 : decode (xt_code m_M_isOver) 23 = .ok (.imul, 1) := by decide +kernel
theorem d_M_isOver_24 : decode (xt_code m_M_isOver) 24 = .ok (.iload_n 3, 1) := by decide +kernel
theorem d_M_isOver_25 : decode (xt_code m_M_isOver) 25 = .ok (.iadd, 1) := by decide +kernel
theorem d_M_isOver_26 : decode (xt_code m_M_isOver) 26 = .ok (.iaload, 1) := by decide +kernel
theorem d_M_isOver_27 : decode (xt_code m_M_isOver) 27 = .ok (.invokestatic 94, 3) := by decide +kernel
theorem d_M_isOver_30 : decode (xt_code m_M_isOver) 30 = .ok (.ifCond .eq 7, 3) := by decide +kernel
theorem d_M_isOver_33 : decode (xt_code m_M_isOver) 33 = .ok (.iconst 1, 1) := by decide +kernel
theorem d_M_isOver_34 : decode (xt_code m_M_isOver) 34 = .ok (.goto 4, 3) := by decide +kernel
end
section
/-! decode rows, by program -/
theorem d_M_isOver_37 : decode (xt_code m_M_isOver) 37 = .ok (.iconst 0, 1) := by decide +kernel
theorem d_M_isOver_38 : decode (xt_code m_M_isOver) 38 = .ok (.istore_n 2, 1) := by decide +kernel
theorem d_M_isOver_39 : decode (xt_code m_M_isOver) 39 = .ok (.iinc 3 1, 3) := by decide +kernel
theorem d_M_isOver_42 : decode (xt_code m_M_isOver) 42 = .ok (.goto (-38), 3) := by decide +kernel
theorem d_M_isOver_45 : decode (xt_code m_M_isOver) 45 = .ok (.iload_n 2, 1) := by decide +kernel
theorem d_M_isOver_46 : decode (xt_code m_M_isOver) 46 = .ok (.ireturn, 1) := by decide +kernel
theorem d_M_isEnd_0 : decode (xt_code m_M_isEnd) 0 = .ok (.iload_n 0, 1) := by decide +kernel
theorem d_M_isEnd_1 : decode (xt_code m_M_isEnd) 1 = .ok (.iconst 2, 1) := by decide +kernel
theorem d_M_isEnd_2 : decode (xt_code m_M_isEnd) 2 = .ok (.if_icmp .le 7, 3) := by decide +kernel
theorem d_M_isEnd_5 : decode (xt_code m_M_isEnd) 5 = .ok (.iconst 1, 1) := by decide +kernel
theorem d_M_isEnd_6 : decode (xt_code m_M_isEnd) 6 = .ok (.goto 4, 3) := by decide +kernel
theorem d_M_isEnd_9 : decode (xt_code m_M_isEnd) 9 = .ok (.iconst 0, 1) := by decide +kernel
theorem d_M_isEnd_10 : decode (xt_code m_M_isEnd) 10 = .ok (.ireturn, 1) := by decide +kernel
theorem d_M_stop_0 : decode (xt_code m_M_stop) 0 = .ok (.iconst 0, 1) := by decide +kernel
theorem d_M_stop_1 : decode (xt_code m_M_stop) 1 = .ok (.istore_n 2, 1) := by decide +kernel
theorem d_M_stop_2 : decode (xt_code m_M_stop) 2 = .ok (.iload_n 2, 1) := by decide +kernel
theorem d_M_stop_3 : decode (xt_code m_M_stop) 3 = .ok (.aload_n 0, 1) := by decide +kernel
theorem d_M_stop_4 : decode (xt_code m_M_stop) 4 = .ok (.getfield 78, 3) := by decide +kernel
theorem d_M_stop_7 : decode (xt_code m_M_stop) 7 = .ok (.if_icmp .ge 53, 3) := by decide +kernel
theorem d_M_stop_10 : decode (xt_code m_M_stop) 10 = .ok (.bipush 12, 2) := by decide +kernel
theorem d_M_stop_12 : decode (xt_code m_M_stop) 12 = .ok (.iload_n 1, 1) := by decide +kernel
theorem d_M_stop_13 : decode (xt_code m_M_stop) 13 = .ok (.imul, 1) := by decide +kernel
theorem d_M_stop_14 : decode (xt_code m_M_stop) 14 = .ok (.iload_n 2, 1) := by decide +kernel
theorem d_M_stop_15 : decode (xt_code m_M_stop) 15 = .ok (.iadd, 1) := by decide +kernel
theorem d_M_stop_16 : decode (xt_code m_M_stop) 16 = .ok (.istore_n 3, 1) := by decide +kernel
theorem d_M_stop_17 : decode (xt_code m_M_stop) 17 = .ok (.aload_n 0, 1) := by decide +kernel
theorem d_M_stop_18 : decode (xt_code m_M_stop) 18 = .ok (.getfield 26, 3) := by decide +kernel
theorem d_M_stop_21 : decode (xt_code m_M_stop) 21 = .ok (.iload_n 2, 1) := by decide +kernel
theorem d_M_stop_22 : decode (xt_code m_M_stop) 22 = .ok (.baload, 1) := by decide +kernel
theorem d_M_stop_23 : decode (xt_code m_M_stop) 23 = .ok (.ifCond .ne 31, 3) := by decide +kernel
theorem d_M_stop_26 : decode (xt_code m_M_stop) 26 = .ok (.aload_n 0, 1) := by decide +kernel
theorem d_M_stop_27 : decode (xt_code m_M_stop) 27 = .ok (.getfield 42, 3) := by decide +kernel
theorem d_M_stop_30 : decode (xt_code m_M_stop) 30 = .ok (.iload_n 3, 1) := by decide +kernel
theorem d_M_stop_31 : decode (xt_code m_M_stop) 31 = .ok (.iaload, 1) := by decide +kernel
theorem d_M_stop_32 : decode (xt_code m_M_stop) 32 = .ok (.invokestatic 94, 3) := by decide +kernel
theorem d_M_stop_35 : decode (xt_code m_M_stop) 35 = .ok (.ifCond .eq 6, 3) := by decide +kernel
theorem d_M_stop_38 : decode (xt_code m_M_stop) 38 = .ok (.goto 16, 3) := by decide +kernel
theorem d_M_stop_41 : decode (xt_code m_M_stop) 41 = .ok (.aload_n 0, 1) := by decide +kernel
theorem d_M_stop_42 : decode (xt_code m_M_stop) 42 = .ok (.iload_n 3, 1) := by decide +kernel
theorem d_M_stop_43 : decode (xt_code m_M_stop) 43 = .ok (.invokevirtual 104, 3) := by decide +kernel
theorem d_M_stop_46 : decode (xt_code m_M_stop) 46 = .ok (.aload_n 0, 1) := by decide +kernel
theorem d_M_stop_47 : decode (xt_code m_M_stop) 47 = .ok (.getfield 42, 3) := by decide +kernel
theorem d_M_stop_50 : decode (xt_code m_M_stop) 50 = .ok (.iload_n 3, 1) := by decide +kernel
theorem d_M_stop_51 : decode (xt_code m_M_stop) 51 = .ok (.bipush 6, 2) := by decide +kernel
theorem d_M_stop_53 : decode (xt_code m_M_stop) 53 = .ok (.iastore, 1) := by decide +kernel
theorem d_M_stop_54 : decode (xt_code m_M_stop) 54 = .ok (.iinc 2 1, 3) := by decide +kernel
theorem d_M_stop_57 : decode (xt_code m_M_stop) 57 = .ok (.goto (-55), 3) := by decide +kernel
theorem d_M_stop_60 : decode (xt_code m_M_stop) 60 = .ok (.aload_n 0, 1) := by decide +kernel
theorem d_M_stop_61 : decode (xt_code m_M_stop) 61 = .ok (.getfield 39, 3) := by decide +kernel
theorem d_M_stop_64 : decode (xt_code m_M_stop) 64 = .ok (.iload_n 1, 1) := by decide +kernel
theorem d_M_stop_65 : decode (xt_code m_M_stop) 65 = .ok (.iconst 1, 1) := by decide +kernel
theorem d_M_stop_66 : decode (xt_code m_M_stop) 66 = .ok (.bastore, 1) := by decide +kernel
theorem d_M_stop_67 : decode (xt_code m_M_stop) 67 = .ok (.return_, 1) := by decide +kernel
theorem d_M_free_0 : decode (xt_code m_M_free) 0 = .ok (.iconst 0, 1) := by decide +kernel
theorem d_M_free_1 : decode (xt_code m_M_free) 1 = .ok (.istore_n 2, 1) := by decide +kernel
theorem d_M_free_2 : decode (xt_code m_M_free) 2 = .ok (.iload_n 2, 1) := by decide +kernel
theorem d_M_free_3 : decode (xt_code m_M_free) 3 = .ok (.aload_n 0, 1) := by decide +kernel
theorem d_M_free_4 : decode (xt_code m_M_free) 4 = .ok (.getfield 84, 3) := by decide +kernel
theorem d_M_free_7 : decode (xt_code m_M_free) 7 = .ok (.if_icmp .ge 35, 3) := by decide +kernel
theorem d_M_free_10 : decode (xt_code m_M_free) 10 = .ok (.aload_n 0, 1) := by decide +kernel
theorem d_M_free_11 : decode (xt_code m_M_free) 11 = .ok (.getfield 72, 3) := by decide +kernel
theorem d_M_free_14 : decode (xt_code m_M_free) 14 = .ok (.iload_n 2, 1) := by decide +kernel
theorem d_M_free_15 : decode (xt_code m_M_free) 15 = .ok (.aload_n 0, 1) := by decide +kernel
theorem d_M_free_16 : decode (xt_code m_M_free) 16 = .ok (.getfield 72, 3) := by decide +kernel
theorem d_M_free_19 : decode (xt_code m_M_free) 19 = .ok (.iload_n 2, 1) := by decide +kernel
theorem d_M_free_20 : decode (xt_code m_M_free) 20 = .ok (.iaload, 1) := by decide +kernel
theorem d_M_free_21 : decode (xt_code m_M_free) 21 = .ok (.iload_n 1, 1) := by decide +kernel
theorem d_M_free_22 : decode (xt_code m_M_free) 22 = .ok (.if_icmp .ne 7, 3) := by decide +kernel
theorem d_M_free_25 : decode (xt_code m_M_free) 25 = .ok (.iconst (-1), 1) := by decide +kernel
theorem d_M_free_26 : decode (xt_code m_M_free) 26 = .ok (.goto 9, 3) := by decide +kernel
theorem d_M_free_29 : decode (xt_code m_M_free) 29 = .ok (.aload_n 0, 1) := by decide +kernel
theorem d_M_free_30 : decode (xt_code m_M_free) 30 = .ok (.getfield 72, 3) := by decide +kernel
theorem d_M_free_33 : decode (xt_code m_M_free) 33 = .ok (.iload_n 2, 1) := by decide +kernel
theorem d_M_free_34 : decode (xt_code m_M_free) 34 = .ok (.iaload, 1) := by decide +kernel
theorem d_M_free_35 : decode (xt_code m_M_free) 35 = .ok (.iastore, 1) := by decide +kernel
theorem d_M_free_36 : decode (xt_code m_M_free) 36 = .ok (.iinc 2 1, 3) := by decide +kernel
theorem d_M_free_39 : decode (xt_code m_M_free) 39 = .ok (.goto (-37), 3) := by decide +kernel
theorem d_M_free_42 : decode (xt_code m_M_free) 42 = .ok (.return_, 1) := by decide +kernel
theorem d_M_settle_0 : decode (xt_code m_M_settle) 0 = .ok (.iconst 0, 1) := by decide +kernel
theorem d_M_settle_1 : decode (xt_code m_M_settle) 1 = .ok (.istore_n 1, 1) := by decide +kernel
theorem d_M_settle_2 : decode (xt_code m_M_settle) 2 = .ok (.iload_n 1, 1) := by decide +kernel
theorem d_M_settle_3 : decode (xt_code m_M_settle) 3 = .ok (.bipush 12, 2) := by decide +kernel
theorem d_M_settle_5 : decode (xt_code m_M_settle) 5 = .ok (.aload_n 0, 1) := by decide +kernel
theorem d_M_settle_6 : decode (xt_code m_M_settle) 6 = .ok (.getfield 81, 3) := by decide +kernel
theorem d_M_settle_9 : decode (xt_code m_M_settle) 9 = .ok (.imul, 1) := by decide +kernel
theorem d_M_settle_10 : decode (xt_code m_M_settle) 10 = .ok (.if_icmp .ge 47, 3) := by decide +kernel
theorem d_M_settle_13 : decode (xt_code m_M_settle) 13 = .ok (.iload_n 1, 1) := by decide +kernel
theorem d_M_settle_14 : decode (xt_code m_M_settle) 14 = .ok (.bipush 12, 2) := by decide +kernel
theorem d_M_settle_16 : decode (xt_code m_M_settle) 16 = .ok (.irem, 1) := by decide +kernel
theorem d_M_settle_17 : decode (xt_code m_M_settle) 17 = .ok (.aload_n 0, 1) := by decide +kernel
theorem d_M_settle_18 : decode (xt_code m_M_settle) 18 = .ok (.getfield 78, 3) := by decide +kernel
theorem d_M_settle_21 : decode (xt_code m_M_settle) 21 = .ok (.if_icmp .ge 30, 3) := by decide +kernel
theorem d_M_settle_24 : decode (xt_code m_M_settle) 24 = .ok (.aload_n 0, 1) := by decide +kernel
theorem d_M_settle_25 : decode (xt_code m_M_settle) 25 = .ok (.getfield 42, 3) := by decide +kernel
theorem d_M_settle_28 : decode (xt_code m_M_settle) 28 = .ok (.iload_n 1, 1) := by decide +kernel
theorem d_M_settle_29 : decode (xt_code m_M_settle) 29 = .ok (.iaload, 1) := by decide +kernel
theorem d_M_settle_30 : decode (xt_code m_M_settle) 30 = .ok (.ifCond .ne 21, 3) := by decide +kernel
theorem d_M_settle_33 : decode (xt_code m_M_settle) 33 = .ok (.aload_n 0, 1) := by decide +kernel
theorem d_M_settle_34 : decode (xt_code m_M_settle) 34 = .ok (.getfield 42, 3) := by decide +kernel
theorem d_M_settle_37 : decode (xt_code m_M_settle) 37 = .ok (.iload_n 1, 1) := by decide +kernel
theorem d_M_settle_38 : decode (xt_code m_M_settle) 38 = .ok (.aload_n 0, 1) := by decide +kernel
theorem d_M_settle_39 : decode (xt_code m_M_settle) 39 = .ok (.iload_n 1, 1) := by decide +kernel
theorem d_M_settle_40 : decode (xt_code m_M_settle) 40 = .ok (.bipush 12, 2) := by decide +kernel
theorem d_M_settle_42 : decode (xt_code m_M_settle) 42 = .ok (.idiv, 1) := by decide +kernel
theorem d_M_settle_43 : decode (xt_code m_M_settle) 43 = .ok (.iload_n 1, 1) := by decide +kernel
theorem d_M_settle_44 : decode (xt_code m_M_settle) 44 = .ok (.bipush 12, 2) := by decide +kernel
theorem d_M_settle_46 : decode (xt_code m_M_settle) 46 = .ok (.irem, 1) := by decide +kernel
theorem d_M_settle_47 : decode (xt_code m_M_settle) 47 = .ok (.invokevirtual 100, 3) := by decide +kernel
theorem d_M_settle_50 : decode (xt_code m_M_settle) 50 = .ok (.iastore, 1) := by decide +kernel
theorem d_M_settle_51 : decode (xt_code m_M_settle) 51 = .ok (.iinc 1 1, 3) := by decide +kernel
theorem d_M_settle_54 : decode (xt_code m_M_settle) 54 = .ok (.goto (-52), 3) := by decide +kernel
theorem d_M_settle_57 : decode (xt_code m_M_settle) 57 = .ok (.return_, 1) := by decide +kernel
theorem d_M_becomes_0 : decode (xt_code m_M_becomes) 0 = .ok (.aload_n 0, 1) := by decide +kernel
theorem d_M_becomes_1 : decode (xt_code m_M_becomes) 1 = .ok (.getfield 39, 3) := by decide +kernel
theorem d_M_becomes_4 : decode (xt_code m_M_becomes) 4 = .ok (.iload_n 1, 1) := by decide +kernel
theorem d_M_becomes_5 : decode (xt_code m_M_becomes) 5 = .ok (.baload, 1) := by decide +kernel
theorem d_M_becomes_6 : decode (xt_code m_M_becomes) 6 = .ok (.ifCond .eq 15, 3) := by decide +kernel
theorem d_M_becomes_9 : decode (xt_code m_M_becomes) 9 = .ok (.aload_n 0, 1) := by decide +kernel
theorem d_M_becomes_10 : decode (xt_code m_M_becomes) 10 = .ok (.getfield 26, 3) := by decide +kernel
theorem d_M_becomes_13 : decode (xt_code m_M_becomes) 13 = .ok (.iload_n 2, 1) := by decide +kernel
theorem d_M_becomes_14 : decode (xt_code m_M_becomes) 14 = .ok (.baload, 1) := by decide +kernel
theorem d_M_becomes_15 : decode (xt_code m_M_becomes) 15 = .ok (.ifCond .ne 6, 3) := by decide +kernel
theorem d_M_becomes_18 : decode (xt_code m_M_becomes) 18 = .ok (.bipush 6, 2) := by decide +kernel
theorem d_M_becomes_20 : decode (xt_code m_M_becomes) 20 = .ok (.ireturn, 1) := by decide +kernel
theorem d_M_becomes_21 : decode (xt_code m_M_becomes) 21 = .ok (.iconst 1, 1) := by decide +kernel
theorem d_M_becomes_22 : decode (xt_code m_M_becomes) 22 = .ok (.istore_n 3, 1) := by decide +kernel
theorem d_M_becomes_23 : decode (xt_code m_M_becomes) 23 = .ok (.iconst 0, 1) := by decide +kernel
theorem d_M_becomes_24 : decode (xt_code m_M_becomes) 24 = .ok (.istore 4, 2) := by decide +kernel
theorem d_M_becomes_26 : decode (xt_code m_M_becomes) 26 = .ok (.iload 4, 2) := by decide +kernel
theorem d_M_becomes_28 : decode (xt_code m_M_becomes) 28 = .ok (.iload_n 2, 1) := by decide +kernel
theorem d_M_becomes_29 : decode (xt_code m_M_becomes) 29 = .ok (.if_icmp .ge 83, 3) := by decide +kernel
theorem d_M_becomes_32 : decode (xt_code m_M_becomes) 32 = .ok (.aload_n 0, 1) := by decide +kernel
theorem d_M_becomes_33 : decode (xt_code m_M_becomes) 33 = .ok (.getfield 23, 3) := by decide +kernel
theorem d_M_becomes_36 : decode (xt_code m_M_becomes) 36 = .ok (.iload_n 2, 1) := by decide +kernel
theorem d_M_becomes_37 : decode (xt_code m_M_becomes) 37 = .ok (.iaload, 1) := by decide +kernel
theorem d_M_becomes_38 : decode (xt_code m_M_becomes) 38 = .ok (.iload 4, 2) := by decide +kernel
theorem d_M_becomes_40 : decode (xt_code m_M_becomes) 40 = .ok (.ishr, 1) := by decide +kernel
theorem d_M_becomes_41 : decode (xt_code m_M_becomes) 41 = .ok (.iconst 1, 1) := by decide +kernel
theorem d_M_becomes_42 : decode (xt_code m_M_becomes) 42 = .ok (.iand, 1) := by decide +kernel
theorem d_M_becomes_43 : decode (xt_code m_M_becomes) 43 = .ok (.ifCond .ne 6, 3) := by decide +kernel
theorem d_M_becomes_46 : decode (xt_code m_M_becomes) 46 = .ok (.goto 60, 3) := by decide +kernel
theorem d_M_becomes_49 : decode (xt_code m_M_becomes) 49 = .ok (.aload_n 0, 1) := by decide +kernel
theorem d_M_becomes_50 : decode (xt_code m_M_becomes) 50 = .ok (.getfield 42, 3) := by decide +kernel
theorem d_M_becomes_53 : decode (xt_code m_M_becomes) 53 = .ok (.bipush 12, 2) := by decide +kernel
theorem d_M_becomes_55 : decode (xt_code m_M_becomes) 55 = .ok (.iload_n 1, 1) := by decide +kernel
theorem d_M_becomes_56 : decode (xt_code m_M_becomes) 56 = .ok (.imul, 1) := by decide +kernel
theorem d_M_becomes_57 : decode (xt_code m_M_becomes) 57 = .ok (.iload 4, 2) := by decide +kernel
theorem d_M_becomes_59 : decode (xt_code m_M_becomes) 59 = .ok (.iadd, 1) := by decide +kernel
theorem d_M_becomes_60 : decode (xt_code m_M_becomes) 60 = .ok (.iaload, 1) := by decide +kernel
theorem d_M_becomes_61 : decode (xt_code m_M_becomes) 61 = .ok (.istore 5, 2) := by decide +kernel
theorem d_M_becomes_63 : decode (xt_code m_M_becomes) 63 = .ok (.iload 5, 2) := by decide +kernel
theorem d_M_becomes_65 : decode (xt_code m_M_becomes) 65 = .ok (.invokestatic 94, 3) := by decide +kernel
theorem d_M_becomes_68 : decode (xt_code m_M_becomes) 68 = .ok (.ifCond .eq 20, 3) := by decide +kernel
theorem d_M_becomes_71 : decode (xt_code m_M_becomes) 71 = .ok (.iload 5, 2) := by decide +kernel
theorem d_M_becomes_73 : decode (xt_code m_M_becomes) 73 = .ok (.iconst 3, 1) := by decide +kernel
theorem d_M_becomes_74 : decode (xt_code m_M_becomes) 74 = .ok (.if_icmp .eq 14, 3) := by decide +kernel
theorem d_M_becomes_77 : decode (xt_code m_M_becomes) 77 = .ok (.aload_n 0, 1) := by decide +kernel
theorem d_M_becomes_78 : decode (xt_code m_M_becomes) 78 = .ok (.getfield 26, 3) := by decide +kernel
theorem d_M_becomes_81 : decode (xt_code m_M_becomes) 81 = .ok (.iload_n 2, 1) := by decide +kernel
theorem d_M_becomes_82 : decode (xt_code m_M_becomes) 82 = .ok (.baload, 1) := by decide +kernel
theorem d_M_becomes_83 : decode (xt_code m_M_becomes) 83 = .ok (.ifCond .ne 5, 3) := by decide +kernel
theorem d_M_becomes_86 : decode (xt_code m_M_becomes) 86 = .ok (.iconst 5, 1) := by decide +kernel
theorem d_M_becomes_87 : decode (xt_code m_M_becomes) 87 = .ok (.ireturn, 1) := by decide +kernel
theorem d_M_becomes_88 : decode (xt_code m_M_becomes) 88 = .ok (.iload_n 3, 1) := by decide +kernel
theorem d_M_becomes_89 : decode (xt_code m_M_becomes) 89 = .ok (.ifCond .eq 15, 3) := by decide +kernel
theorem d_M_becomes_92 : decode (xt_code m_M_becomes) 92 = .ok (.iload 5, 2) := by decide +kernel
theorem d_M_becomes_94 : decode (xt_code m_M_becomes) 94 = .ok (.invokestatic 94, 3) := by decide +kernel
theorem d_M_becomes_97 : decode (xt_code m_M_becomes) 97 = .ok (.ifCond .eq 7, 3) := by decide +kernel
theorem d_M_becomes_100 : decode (xt_code m_M_becomes) 100 = .ok (.iconst 1, 1) := by decide +kernel
theorem d_M_becomes_101 : decode (xt_code m_M_becomes) 101 = .ok (.goto 4, 3) := by decide +kernel
theorem d_M_becomes_104 : decode (xt_code m_M_becomes) 104 = .ok (.iconst 0, 1) := by decide +kernel
theorem d_M_becomes_105 : decode (xt_code m_M_becomes) 105 = .ok (.istore_n 3, 1) := by decide +kernel
theorem d_M_becomes_106 : decode (xt_code m_M_becomes) 106 = .ok (.iinc 4 1, 3) := by decide +kernel
theorem d_M_becomes_109 : decode (xt_code m_M_becomes) 109 = .ok (.goto (-83), 3) := by decide +kernel
theorem d_M_becomes_112 : decode (xt_code m_M_becomes) 112 = .ok (.iload_n 3, 1) := by decide +kernel
theorem d_M_becomes_113 : decode (xt_code m_M_becomes) 113 = .ok (.ifCond .eq 29, 3) := by decide +kernel
theorem d_M_becomes_116 : decode (xt_code m_M_becomes) 116 = .ok (.aload_n 0, 1) := by decide +kernel
theorem d_M_becomes_117 : decode (xt_code m_M_becomes) 117 = .ok (.getfield 30, 3) := by decide +kernel
theorem d_M_becomes_120 : decode (xt_code m_M_becomes) 120 = .ok (.iload_n 2, 1) := by decide +kernel
theorem d_M_becomes_121 : decode (xt_code m_M_becomes) 121 = .ok (.baload, 1) := by decide +kernel
theorem d_M_becomes_122 : decode (xt_code m_M_becomes) 122 = .ok (.ifCond .eq 16, 3) := by decide +kernel
theorem d_M_becomes_125 : decode (xt_code m_M_becomes) 125 = .ok (.aload_n 0, 1) := by decide +kernel
theorem d_M_becomes_126 : decode (xt_code m_M_becomes) 126 = .ok (.bipush 12, 2) := by decide +kernel
theorem d_M_becomes_128 : decode (xt_code m_M_becomes) 128 = .ok (.iload_n 1, 1) := by decide +kernel
theorem d_M_becomes_129 : decode (xt_code m_M_becomes) 129 = .ok (.imul, 1) := by decide +kernel
theorem d_M_becomes_130 : decode (xt_code m_M_becomes) 130 = .ok (.iload_n 2, 1) := by decide +kernel
theorem d_M_becomes_131 : decode (xt_code m_M_becomes) 131 = .ok (.iadd, 1) := by decide +kernel
theorem d_M_becomes_132 : decode (xt_code m_M_becomes) 132 = .ok (.invokevirtual 97, 3) := by decide +kernel
theorem d_M_becomes_135 : decode (xt_code m_M_becomes) 135 = .ok (.ifCond .eq 7, 3) := by decide +kernel
theorem d_M_becomes_138 : decode (xt_code m_M_becomes) 138 = .ok (.iconst 1, 1) := by decide +kernel
theorem d_M_becomes_139 : decode (xt_code m_M_becomes) 139 = .ok (.goto 4, 3) := by decide +kernel
theorem d_M_becomes_142 : decode (xt_code m_M_becomes) 142 = .ok (.iconst 0, 1) := by decide +kernel
theorem d_M_becomes_143 : decode (xt_code m_M_becomes) 143 = .ok (.ireturn, 1) := by decide +kernel
theorem d_M_isApproved_0 : decode (xt_code m_M_isApproved) 0 = .ok (.iconst 0, 1) := by decide +kernel
theorem d_M_isApproved_1 : decode (xt_code m_M_isApproved) 1 = .ok (.istore_n 2, 1) := by decide +kernel
theorem d_M_isApproved_2 : decode (xt_code m_M_isApproved) 2 = .ok (.iconst 0, 1) := by decide +kernel
theorem d_M_isApproved_3 : decode (xt_code m_M_isApproved) 3 = .ok (.istore_n 3, 1) := by decide +kernel
theorem d_M_isApproved_4 : decode (xt_code m_M_isApproved) 4 = .ok (.iload_n 3, 1) := by decide +kernel
theorem d_M_isApproved_5 : decode (xt_code m_M_isApproved) 5 = .ok (.bipush 8, 2) := by decide +kernel
theorem d_M_isApproved_7 : decode (xt_code m_M_isApproved) 7 = .ok (.if_icmp .ge 22, 3) := by decide +kernel
theorem d_M_isApproved_10 : decode (xt_code m_M_isApproved) 10 = .ok (.iload_n 2, 1) := by decide +kernel
theorem d_M_isApproved_11 : decode (xt_code m_M_isApproved) 11 = .ok (.aload_n 0, 1) := by decide +kernel
theorem d_M_isApproved_12 : decode (xt_code m_M_isApproved) 12 = .ok (.getfield 63, 3) := by decide +kernel
theorem d_M_isApproved_15 : decode (xt_code m_M_isApproved) 15 = .ok (.iload_n 1, 1) := by decide +kernel
theorem d_M_isApproved_16 : decode (xt_code m_M_isApproved) 16 = .ok (.iaload, 1) := by decide +kernel
theorem d_M_isApproved_17 : decode (xt_code m_M_isApproved) 17 = .ok (.iload_n 3, 1) := by decide +kernel
theorem d_M_isApproved_18 : decode (xt_code m_M_isApproved) 18 = .ok (.ishr, 1) := by decide +kernel
theorem d_M_isApproved_19 : decode (xt_code m_M_isApproved) 19 = .ok (.iconst 1, 1) := by decide +kernel
theorem d_M_isApproved_20 : decode (xt_code m_M_isApproved) 20 = .ok (.iand, 1) := by decide +kernel
theorem d_M_isApproved_21 : decode (xt_code m_M_isApproved) 21 = .ok (.iadd, 1) := by decide +kernel
theorem d_M_isApproved_22 : decode (xt_code m_M_isApproved) 22 = .ok (.istore_n 2, 1) := by decide +kernel
theorem d_M_isApproved_23 : decode (xt_code m_M_isApproved) 23 = .ok (.iinc 3 1, 3) := by decide +kernel
theorem d_M_isApproved_26 : decode (xt_code m_M_isApproved) 26 = .ok (.goto (-22), 3) := by decide +kernel
theorem d_M_isApproved_29 : decode (xt_code m_M_isApproved) 29 = .ok (.iload_n 2, 1) := by decide +kernel
theorem d_M_isApproved_30 : decode (xt_code m_M_isApproved) 30 = .ok (.iconst 1, 1) := by decide +kernel
theorem d_M_isApproved_31 : decode (xt_code m_M_isApproved) 31 = .ok (.if_icmp .le 7, 3) := by decide +kernel
theorem d_M_isApproved_34 : decode (xt_code m_M_isApproved) 34 = .ok (.iconst 1, 1) := by decide +kernel
theorem d_M_isApproved_35 : decode (xt_code m_M_isApproved) 35 = .ok (.goto 4, 3) := by decide +kernel
theorem d_M_isApproved_38 : decode (xt_code m_M_isApproved) 38 = .ok (.iconst 0, 1) := by decide +kernel
theorem d_M_isApproved_39 : decode (xt_code m_M_isApproved) 39 = .ok (.ireturn, 1) := by decide +kernel
theorem d_M_approve_0 : decode (xt_code m_M_approve) 0 = .ok (.aload_n 0, 1) := by decide +kernel
theorem d_M_approve_1 : decode (xt_code m_M_approve) 1 = .ok (.iconst 0, 1) := by decide +kernel
theorem d_M_approve_2 : decode (xt_code m_M_approve) 2 = .ok (.putfield 75, 3) := by decide +kernel
theorem d_M_approve_5 : decode (xt_code m_M_approve) 5 = .ok (.aload_n 0, 1) := by decide +kernel
theorem d_M_approve_6 : decode (xt_code m_M_approve) 6 = .ok (.iload_n 1, 1) := by decide +kernel
theorem d_M_approve_7 : decode (xt_code m_M_approve) 7 = .ok (.iload_n 2, 1) := by decide +kernel
theorem d_M_approve_8 : decode (xt_code m_M_approve) 8 = .ok (.invokevirtual 120, 3) := by decide +kernel
theorem d_M_approve_11 : decode (xt_code m_M_approve) 11 = .ok (.ifCond .eq 39, 3) := by decide +kernel
theorem d_M_approve_14 : decode (xt_code m_M_approve) 14 = .ok (.iload_n 3, 1) := by decide +kernel
theorem d_M_approve_15 : decode (xt_code m_M_approve) 15 = .ok (.ifCond .lt 35, 3) := by decide +kernel
theorem d_M_approve_18 : decode (xt_code m_M_approve) 18 = .ok (.iload_n 3, 1) := by decide +kernel
theorem d_M_approve_19 : decode (xt_code m_M_approve) 19 = .ok (.bipush 8, 2) := by decide +kernel
theorem d_M_approve_21 : decode (xt_code m_M_approve) 21 = .ok (.if_icmp .ge 29, 3) := by decide +kernel
theorem d_M_approve_24 : decode (xt_code m_M_approve) 24 = .ok (.aload_n 0, 1) := by decide +kernel
theorem d_M_approve_25 : decode (xt_code m_M_approve) 25 = .ok (.getfield 30, 3) := by decide +kernel
theorem d_M_approve_28 : decode (xt_code m_M_approve) 28 = .ok (.iload_n 2, 1) := by decide +kernel
theorem d_M_approve_29 : decode (xt_code m_M_approve) 29 = .ok (.baload, 1) := by decide +kernel
theorem d_M_approve_30 : decode (xt_code m_M_approve) 30 = .ok (.ifCond .eq 20, 3) := by decide +kernel
theorem d_M_approve_33 : decode (xt_code m_M_approve) 33 = .ok (.aload_n 0, 1) := by decide +kernel
theorem d_M_approve_34 : decode (xt_code m_M_approve) 34 = .ok (.getfield 42, 3) := by decide +kernel
theorem d_M_approve_37 : decode (xt_code m_M_approve) 37 = .ok (.bipush 12, 2) := by decide +kernel
theorem d_M_approve_39 : decode (xt_code m_M_approve) 39 = .ok (.iload_n 1, 1) := by decide +kernel
theorem d_M_approve_40 : decode (xt_code m_M_approve) 40 = .ok (.imul, 1) := by decide +kernel
theorem d_M_approve_41 : decode (xt_code m_M_approve) 41 = .ok (.iload_n 2, 1) := by decide +kernel
theorem d_M_approve_42 : decode (xt_code m_M_approve) 42 = .ok (.iadd, 1) := by decide +kernel
theorem d_M_approve_43 : decode (xt_code m_M_approve) 43 = .ok (.iaload, 1) := by decide +kernel
theorem d_M_approve_44 : decode (xt_code m_M_approve) 44 = .ok (.invokestatic 94, 3) := by decide +kernel
theorem d_M_approve_47 : decode (xt_code m_M_approve) 47 = .ok (.ifCond .eq 5, 3) := by decide +kernel
theorem d_M_approve_50 : decode (xt_code m_M_approve) 50 = .ok (.iconst (-1), 1) := by decide +kernel
theorem d_M_approve_51 : decode (xt_code m_M_approve) 51 = .ok (.ireturn, 1) := by decide +kernel
theorem d_M_approve_52 : decode (xt_code m_M_approve) 52 = .ok (.aload_n 0, 1) := by decide +kernel
theorem d_M_approve_53 : decode (xt_code m_M_approve) 53 = .ok (.getfield 33, 3) := by decide +kernel
theorem d_M_approve_56 : decode (xt_code m_M_approve) 56 = .ok (.iload_n 1, 1) := by decide +kernel
theorem d_M_approve_57 : decode (xt_code m_M_approve) 57 = .ok (.iaload, 1) := by decide +kernel
theorem d_M_approve_58 : decode (xt_code m_M_approve) 58 = .ok (.iload_n 3, 1) := by decide +kernel
theorem d_M_approve_59 : decode (xt_code m_M_approve) 59 = .ok (.if_icmp .ne 6, 3) := by decide +kernel
theorem d_M_approve_62 : decode (xt_code m_M_approve) 62 = .ok (.bipush (-2), 2) := by decide +kernel
theorem d_M_approve_64 : decode (xt_code m_M_approve) 64 = .ok (.ireturn, 1) := by decide +kernel
theorem d_M_approve_65 : decode (xt_code m_M_approve) 65 = .ok (.aload_n 0, 1) := by decide +kernel
theorem d_M_approve_66 : decode (xt_code m_M_approve) 66 = .ok (.getfield 63, 3) := by decide +kernel
theorem d_M_approve_69 : decode (xt_code m_M_approve) 69 = .ok (.bipush 12, 2) := by decide +kernel
theorem d_M_approve_71 : decode (xt_code m_M_approve) 71 = .ok (.iload_n 1, 1) := by decide +kernel
theorem d_M_approve_72 : decode (xt_code m_M_approve) 72 = .ok (.imul, 1) := by decide +kernel
theorem d_M_approve_73 : decode (xt_code m_M_approve) 73 = .ok (.iload_n 2, 1) := by decide +kernel
theorem d_M_approve_74 : decode (xt_code m_M_approve) 74 = .ok (.iadd, 1) := by decide +kernel
theorem d_M_approve_75 : decode (xt_code m_M_approve) 75 = .ok (.iaload, 1) := by decide +kernel
theorem d_M_approve_76 : decode (xt_code m_M_approve) 76 = .ok (.iload_n 3, 1) := by decide +kernel
theorem d_M_approve_77 : decode (xt_code m_M_approve) 77 = .ok (.ishr, 1) := by decide +kernel
theorem d_M_approve_78 : decode (xt_code m_M_approve) 78 = .ok (.iconst 1, 1) := by decide +kernel
theorem d_M_approve_79 : decode (xt_code m_M_approve) 79 = .ok (.iand, 1) := by decide +kernel
theorem d_M_approve_80 : decode (xt_code m_M_approve) 80 = .ok (.iconst 1, 1) := by decide +kernel
theorem d_M_approve_81 : decode (xt_code m_M_approve) 81 = .ok (.if_icmp .ne 5, 3) := by decide +kernel
theorem d_M_approve_84 : decode (xt_code m_M_approve) 84 = .ok (.iconst 0, 1) := by decide +kernel
theorem d_M_approve_85 : decode (xt_code m_M_approve) 85 = .ok (.ireturn, 1) := by decide +kernel
theorem d_M_approve_86 : decode (xt_code m_M_approve) 86 = .ok (.aload_n 0, 1) := by decide +kernel
theorem d_M_approve_87 : decode (xt_code m_M_approve) 87 = .ok (.getfield 63, 3) := by decide +kernel
theorem d_M_approve_90 : decode (xt_code m_M_approve) 90 = .ok (.bipush 12, 2) := by decide +kernel
theorem d_M_approve_92 : decode (xt_code m_M_approve) 92 = .ok (.iload_n 1, 1) := by decide +kernel
theorem d_M_approve_93 : decode (xt_code m_M_approve) 93 = .ok (.imul, 1) := by decide +kernel
theorem d_M_approve_94 : decode (xt_code m_M_approve) 94 = .ok (.iload_n 2, 1) := by decide +kernel
theorem d_M_approve_95 : decode (xt_code m_M_approve) 95 = .ok (.iadd, 1) := by decide +kernel
theorem d_M_approve_96 : decode (xt_code m_M_approve) 96 = .ok (.dup2, 1) := by decide +kernel
theorem d_M_approve_97 : decode (xt_code m_M_approve) 97 = .ok (.iaload, 1) := by decide +kernel
theorem d_M_approve_98 : decode (xt_code m_M_approve) 98 = .ok (.iconst 1, 1) := by decide +kernel
theorem d_M_approve_99 : decode (xt_code m_M_approve) 99 = .ok (.iload_n 3, 1) := by decide +kernel
theorem d_M_approve_100 : decode (xt_code m_M_approve) 100 = .ok (.ishl, 1) := by decide +kernel
theorem d_M_approve_101 : decode (xt_code m_M_approve) 101 = .ok (.ior, 1) := by decide +kernel
theorem d_M_approve_102 : decode (xt_code m_M_approve) 102 = .ok (.iastore, 1) := by decide +kernel
theorem d_M_approve_103 : decode (xt_code m_M_approve) 103 = .ok (.aload_n 0, 1) := by decide +kernel
theorem d_M_approve_104 : decode (xt_code m_M_approve) 104 = .ok (.invokevirtual 114, 3) := by decide +kernel
theorem d_M_approve_107 : decode (xt_code m_M_approve) 107 = .ok (.iconst 1, 1) := by decide +kernel
theorem d_M_approve_108 : decode (xt_code m_M_approve) 108 = .ok (.ireturn, 1) := by decide +kernel
theorem d_M_isThere_0 : decode (xt_code m_M_isThere) 0 = .ok (.aload_n 0, 1) := by decide +kernel
theorem d_M_isThere_1 : decode (xt_code m_M_isThere) 1 = .ok (.iload_n 1, 1) := by decide +kernel
theorem d_M_isThere_2 : decode (xt_code m_M_isThere) 2 = .ok (.invokevirtual 117, 3) := by decide +kernel
theorem d_M_isThere_5 : decode (xt_code m_M_isThere) 5 = .ok (.ifCond .eq 15, 3) := by decide +kernel
theorem d_M_isThere_8 : decode (xt_code m_M_isThere) 8 = .ok (.aload_n 0, 1) := by decide +kernel
theorem d_M_isThere_9 : decode (xt_code m_M_isThere) 9 = .ok (.iload_n 2, 1) := by decide +kernel
theorem d_M_isThere_10 : decode (xt_code m_M_isThere) 10 = .ok (.invokevirtual 87, 3) := by decide +kernel
theorem d_M_isThere_13 : decode (xt_code m_M_isThere) 13 = .ok (.ifCond .eq 7, 3) := by decide +kernel
theorem d_M_isThere_16 : decode (xt_code m_M_isThere) 16 = .ok (.iconst 1, 1) := by decide +kernel
theorem d_M_isThere_17 : decode (xt_code m_M_isThere) 17 = .ok (.goto 4, 3) := by decide +kernel
theorem d_M_isThere_20 : decode (xt_code m_M_isThere) 20 = .ok (.iconst 0, 1) := by decide +kernel
theorem d_M_isThere_21 : decode (xt_code m_M_isThere) 21 = .ok (.ireturn, 1) := by decide +kernel
theorem d_M_isRun_0 : decode (xt_code m_M_isRun) 0 = .ok (.iload_n 1, 1) := by decide +kernel
theorem d_M_isRun_1 : decode (xt_code m_M_isRun) 1 = .ok (.ifCond .lt 15, 3) := by decide +kernel
theorem d_M_isRun_4 : decode (xt_code m_M_isRun) 4 = .ok (.iload_n 1, 1) := by decide +kernel
theorem d_M_isRun_5 : decode (xt_code m_M_isRun) 5 = .ok (.aload_n 0, 1) := by decide +kernel
theorem d_M_isRun_6 : decode (xt_code m_M_isRun) 6 = .ok (.getfield 81, 3) := by decide +kernel
theorem d_M_isRun_9 : decode (xt_code m_M_isRun) 9 = .ok (.if_icmp .ge 7, 3) := by decide +kernel
theorem d_M_isRun_12 : decode (xt_code m_M_isRun) 12 = .ok (.iconst 1, 1) := by decide +kernel
theorem d_M_isRun_13 : decode (xt_code m_M_isRun) 13 = .ok (.goto 4, 3) := by decide +kernel
theorem d_M_isRun_16 : decode (xt_code m_M_isRun) 16 = .ok (.iconst 0, 1) := by decide +kernel
theorem d_M_isRun_17 : decode (xt_code m_M_isRun) 17 = .ok (.ireturn, 1) := by decide +kernel
theorem d_M_take_0 : decode (xt_code m_M_take) 0 = .ok (.aload_n 0, 1) := by decide +kernel
theorem d_M_take_1 : decode (xt_code m_M_take) 1 = .ok (.iconst 0, 1) := by decide +kernel
theorem d_M_take_2 : decode (xt_code m_M_take) 2 = .ok (.putfield 75, 3) := by decide +kernel
theorem d_M_take_5 : decode (xt_code m_M_take) 5 = .ok (.aload_n 0, 1) := by decide +kernel
theorem d_M_take_6 : decode (xt_code m_M_take) 6 = .ok (.iload_n 1, 1) := by decide +kernel
theorem d_M_take_7 : decode (xt_code m_M_take) 7 = .ok (.invokevirtual 124, 3) := by decide +kernel
theorem d_M_take_10 : decode (xt_code m_M_take) 10 = .ok (.ifCond .eq 13, 3) := by decide +kernel
theorem d_M_take_13 : decode (xt_code m_M_take) 13 = .ok (.aload_n 0, 1) := by decide +kernel
theorem d_M_take_14 : decode (xt_code m_M_take) 14 = .ok (.getfield 72, 3) := by decide +kernel
theorem d_M_take_17 : decode (xt_code m_M_take) 17 = .ok (.iload_n 1, 1) := by decide +kernel
theorem d_M_take_18 : decode (xt_code m_M_take) 18 = .ok (.iaload, 1) := by decide +kernel
theorem d_M_take_19 : decode (xt_code m_M_take) 19 = .ok (.iconst (-1), 1) := by decide +kernel
theorem d_M_take_20 : decode (xt_code m_M_take) 20 = .ok (.if_icmp .eq 5, 3) := by decide +kernel
theorem d_M_take_23 : decode (xt_code m_M_take) 23 = .ok (.iconst (-1), 1) := by decide +kernel
theorem d_M_take_24 : decode (xt_code m_M_take) 24 = .ok (.ireturn, 1) := by decide +kernel
theorem d_M_take_25 : decode (xt_code m_M_take) 25 = .ok (.iconst (-1), 1) := by decide +kernel
end
section
/-! decode rows, by program -/
theorem d_M_take_26 : decode (xt_code m_M_take) 26 = .ok (.istore_n 2, 1) := by decide +kernel
theorem d_M_take_27 : decode (xt_code m_M_take) 27 = .ok (.iconst 0, 1) := by decide +kernel
theorem d_M_take_28 : decode (xt_code m_M_take) 28 = .ok (.istore_n 3, 1) := by decide +kernel
theorem d_M_take_29 : decode (xt_code m_M_take) 29 = .ok (.iload_n 3, 1) := by decide +kernel
theorem d_M_take_30 : decode (xt_code m_M_take) 30 = .ok (.bipush 12, 2) := by decide +kernel
theorem d_M_take_32 : decode (xt_code m_M_take) 32 = .ok (.aload_n 0, 1) := by decide +kernel
theorem d_M_take_33 : decode (xt_code m_M_take) 33 = .ok (.getfield 81, 3) := by decide +kernel
theorem d_M_take_36 : decode (xt_code m_M_take) 36 = .ok (.imul, 1) := by decide +kernel
theorem d_M_take_37 : decode (xt_code m_M_take) 37 = .ok (.if_icmp .ge 118, 3) := by decide +kernel
theorem d_M_take_40 : decode (xt_code m_M_take) 40 = .ok (.aload_n 0, 1) := by decide +kernel
theorem d_M_take_41 : decode (xt_code m_M_take) 41 = .ok (.getfield 42, 3) := by decide +kernel
theorem d_M_take_44 : decode (xt_code m_M_take) 44 = .ok (.iload_n 3, 1) := by decide +kernel
theorem d_M_take_45 : decode (xt_code m_M_take) 45 = .ok (.iaload, 1) := by decide +kernel
theorem d_M_take_46 : decode (xt_code m_M_take) 46 = .ok (.iconst 1, 1) := by decide +kernel
theorem d_M_take_47 : decode (xt_code m_M_take) 47 = .ok (.if_icmp .ne 102, 3) := by decide +kernel
theorem d_M_take_50 : decode (xt_code m_M_take) 50 = .ok (.aload_n 0, 1) := by decide +kernel
theorem d_M_take_51 : decode (xt_code m_M_take) 51 = .ok (.getfield 13, 3) := by decide +kernel
theorem d_M_take_54 : decode (xt_code m_M_take) 54 = .ok (.iload_n 3, 1) := by decide +kernel
theorem d_M_take_55 : decode (xt_code m_M_take) 55 = .ok (.bipush 12, 2) := by decide +kernel
theorem d_M_take_57 : decode (xt_code m_M_take) 57 = .ok (.irem, 1) := by decide +kernel
theorem d_M_take_58 : decode (xt_code m_M_take) 58 = .ok (.iaload, 1) := by decide +kernel
theorem d_M_take_59 : decode (xt_code m_M_take) 59 = .ok (.aload_n 0, 1) := by decide +kernel
theorem d_M_take_60 : decode (xt_code m_M_take) 60 = .ok (.getfield 66, 3) := by decide +kernel
theorem d_M_take_63 : decode (xt_code m_M_take) 63 = .ok (.iload_n 1, 1) := by decide +kernel
theorem d_M_take_64 : decode (xt_code m_M_take) 64 = .ok (.iaload, 1) := by decide +kernel
theorem d_M_take_65 : decode (xt_code m_M_take) 65 = .ok (.iconst (-1), 1) := by decide +kernel
theorem d_M_take_66 : decode (xt_code m_M_take) 66 = .ok (.ixor, 1) := by decide +kernel
theorem d_M_take_67 : decode (xt_code m_M_take) 67 = .ok (.iand, 1) := by decide +kernel
theorem d_M_take_68 : decode (xt_code m_M_take) 68 = .ok (.ifCond .eq 6, 3) := by decide +kernel
theorem d_M_take_71 : decode (xt_code m_M_take) 71 = .ok (.goto 78, 3) := by decide +kernel
theorem d_M_take_74 : decode (xt_code m_M_take) 74 = .ok (.aload_n 0, 1) := by decide +kernel
theorem d_M_take_75 : decode (xt_code m_M_take) 75 = .ok (.getfield 33, 3) := by decide +kernel
theorem d_M_take_78 : decode (xt_code m_M_take) 78 = .ok (.iload_n 3, 1) := by decide +kernel
theorem d_M_take_79 : decode (xt_code m_M_take) 79 = .ok (.bipush 12, 2) := by decide +kernel
theorem d_M_take_81 : decode (xt_code m_M_take) 81 = .ok (.idiv, 1) := by decide +kernel
theorem d_M_take_82 : decode (xt_code m_M_take) 82 = .ok (.iaload, 1) := by decide +kernel
theorem d_M_take_83 : decode (xt_code m_M_take) 83 = .ok (.istore 4, 2) := by decide +kernel
theorem d_M_take_85 : decode (xt_code m_M_take) 85 = .ok (.iload_n 2, 1) := by decide +kernel
theorem d_M_take_86 : decode (xt_code m_M_take) 86 = .ok (.iconst (-1), 1) := by decide +kernel
theorem d_M_take_87 : decode (xt_code m_M_take) 87 = .ok (.if_icmp .ne 7, 3) := by decide +kernel
theorem d_M_take_90 : decode (xt_code m_M_take) 90 = .ok (.iconst (-1), 1) := by decide +kernel
theorem d_M_take_91 : decode (xt_code m_M_take) 91 = .ok (.goto 12, 3) := by decide +kernel
theorem d_M_take_94 : decode (xt_code m_M_take) 94 = .ok (.aload_n 0, 1) := by decide +kernel
theorem d_M_take_95 : decode (xt_code m_M_take) 95 = .ok (.getfield 33, 3) := by decide +kernel
theorem d_M_take_98 : decode (xt_code m_M_take) 98 = .ok (.iload_n 2, 1) := by decide +kernel
theorem d_M_take_99 : decode (xt_code m_M_take) 99 = .ok (.bipush 12, 2) := by decide +kernel
theorem d_M_take_101 : decode (xt_code m_M_take) 101 = .ok (.idiv, 1) := by decide +kernel
theorem d_M_take_102 : decode (xt_code m_M_take) 102 = .ok (.iaload, 1) := by decide +kernel
theorem d_M_take_103 : decode (xt_code m_M_take) 103 = .ok (.istore 5, 2) := by decide +kernel
theorem d_M_take_105 : decode (xt_code m_M_take) 105 = .ok (.iload_n 2, 1) := by decide +kernel
theorem d_M_take_106 : decode (xt_code m_M_take) 106 = .ok (.iconst (-1), 1) := by decide +kernel
theorem d_M_take_107 : decode (xt_code m_M_take) 107 = .ok (.if_icmp .eq 40, 3) := by decide +kernel
theorem d_M_take_110 : decode (xt_code m_M_take) 110 = .ok (.aload_n 0, 1) := by decide +kernel
theorem d_M_take_111 : decode (xt_code m_M_take) 111 = .ok (.iload 4, 2) := by decide +kernel
theorem d_M_take_113 : decode (xt_code m_M_take) 113 = .ok (.invokevirtual 127, 3) := by decide +kernel
theorem d_M_take_116 : decode (xt_code m_M_take) 116 = .ok (.aload_n 0, 1) := by decide +kernel
theorem d_M_take_117 : decode (xt_code m_M_take) 117 = .ok (.iload 5, 2) := by decide +kernel
theorem d_M_take_119 : decode (xt_code m_M_take) 119 = .ok (.invokevirtual 127, 3) := by decide +kernel
theorem d_M_take_122 : decode (xt_code m_M_take) 122 = .ok (.if_icmp .lt 25, 3) := by decide +kernel
theorem d_M_take_125 : decode (xt_code m_M_take) 125 = .ok (.aload_n 0, 1) := by decide +kernel
theorem d_M_take_126 : decode (xt_code m_M_take) 126 = .ok (.iload 4, 2) := by decide +kernel
theorem d_M_take_128 : decode (xt_code m_M_take) 128 = .ok (.invokevirtual 127, 3) := by decide +kernel
theorem d_M_take_131 : decode (xt_code m_M_take) 131 = .ok (.aload_n 0, 1) := by decide +kernel
theorem d_M_take_132 : decode (xt_code m_M_take) 132 = .ok (.iload 5, 2) := by decide +kernel
theorem d_M_take_134 : decode (xt_code m_M_take) 134 = .ok (.invokevirtual 127, 3) := by decide +kernel
theorem d_M_take_137 : decode (xt_code m_M_take) 137 = .ok (.if_icmp .ne 12, 3) := by decide +kernel
theorem d_M_take_140 : decode (xt_code m_M_take) 140 = .ok (.iload 4, 2) := by decide +kernel
theorem d_M_take_142 : decode (xt_code m_M_take) 142 = .ok (.iload 5, 2) := by decide +kernel
theorem d_M_take_144 : decode (xt_code m_M_take) 144 = .ok (.if_icmp .ge 5, 3) := by decide +kernel
theorem d_M_take_147 : decode (xt_code m_M_take) 147 = .ok (.iload_n 3, 1) := by decide +kernel
theorem d_M_take_148 : decode (xt_code m_M_take) 148 = .ok (.istore_n 2, 1) := by decide +kernel
theorem d_M_take_149 : decode (xt_code m_M_take) 149 = .ok (.iinc 3 1, 3) := by decide +kernel
theorem d_M_take_152 : decode (xt_code m_M_take) 152 = .ok (.goto (-123), 3) := by decide +kernel
theorem d_M_take_155 : decode (xt_code m_M_take) 155 = .ok (.iload_n 2, 1) := by decide +kernel
theorem d_M_take_156 : decode (xt_code m_M_take) 156 = .ok (.iconst (-1), 1) := by decide +kernel
theorem d_M_take_157 : decode (xt_code m_M_take) 157 = .ok (.if_icmp .ne 5, 3) := by decide +kernel
theorem d_M_take_160 : decode (xt_code m_M_take) 160 = .ok (.iconst (-1), 1) := by decide +kernel
theorem d_M_take_161 : decode (xt_code m_M_take) 161 = .ok (.ireturn, 1) := by decide +kernel
theorem d_M_take_162 : decode (xt_code m_M_take) 162 = .ok (.aload_n 0, 1) := by decide +kernel
theorem d_M_take_163 : decode (xt_code m_M_take) 163 = .ok (.getfield 72, 3) := by decide +kernel
theorem d_M_take_166 : decode (xt_code m_M_take) 166 = .ok (.iload_n 1, 1) := by decide +kernel
theorem d_M_take_167 : decode (xt_code m_M_take) 167 = .ok (.iload_n 2, 1) := by decide +kernel
theorem d_M_take_168 : decode (xt_code m_M_take) 168 = .ok (.iastore, 1) := by decide +kernel
theorem d_M_take_169 : decode (xt_code m_M_take) 169 = .ok (.aload_n 0, 1) := by decide +kernel
theorem d_M_take_170 : decode (xt_code m_M_take) 170 = .ok (.getfield 69, 3) := by decide +kernel
theorem d_M_take_173 : decode (xt_code m_M_take) 173 = .ok (.iload_n 1, 1) := by decide +kernel
theorem d_M_take_174 : decode (xt_code m_M_take) 174 = .ok (.aload_n 0, 1) := by decide +kernel
theorem d_M_take_175 : decode (xt_code m_M_take) 175 = .ok (.getfield 91, 3) := by decide +kernel
theorem d_M_take_178 : decode (xt_code m_M_take) 178 = .ok (.iastore, 1) := by decide +kernel
theorem d_M_take_179 : decode (xt_code m_M_take) 179 = .ok (.aload_n 0, 1) := by decide +kernel
theorem d_M_take_180 : decode (xt_code m_M_take) 180 = .ok (.getfield 42, 3) := by decide +kernel
theorem d_M_take_183 : decode (xt_code m_M_take) 183 = .ok (.iload_n 2, 1) := by decide +kernel
theorem d_M_take_184 : decode (xt_code m_M_take) 184 = .ok (.iconst 2, 1) := by decide +kernel
theorem d_M_take_185 : decode (xt_code m_M_take) 185 = .ok (.iastore, 1) := by decide +kernel
theorem d_M_take_186 : decode (xt_code m_M_take) 186 = .ok (.aload_n 0, 1) := by decide +kernel
theorem d_M_take_187 : decode (xt_code m_M_take) 187 = .ok (.getfield 45, 3) := by decide +kernel
theorem d_M_take_190 : decode (xt_code m_M_take) 190 = .ok (.iload_n 2, 1) := by decide +kernel
theorem d_M_take_191 : decode (xt_code m_M_take) 191 = .ok (.aload_n 0, 1) := by decide +kernel
theorem d_M_take_192 : decode (xt_code m_M_take) 192 = .ok (.getfield 91, 3) := by decide +kernel
theorem d_M_take_195 : decode (xt_code m_M_take) 195 = .ok (.iastore, 1) := by decide +kernel
theorem d_M_take_196 : decode (xt_code m_M_take) 196 = .ok (.aload_n 0, 1) := by decide +kernel
theorem d_M_take_197 : decode (xt_code m_M_take) 197 = .ok (.getfield 48, 3) := by decide +kernel
theorem d_M_take_200 : decode (xt_code m_M_take) 200 = .ok (.iload_n 2, 1) := by decide +kernel
theorem d_M_take_201 : decode (xt_code m_M_take) 201 = .ok (.dup2, 1) := by decide +kernel
theorem d_M_take_202 : decode (xt_code m_M_take) 202 = .ok (.iaload, 1) := by decide +kernel
theorem d_M_take_203 : decode (xt_code m_M_take) 203 = .ok (.iconst 1, 1) := by decide +kernel
theorem d_M_take_204 : decode (xt_code m_M_take) 204 = .ok (.iadd, 1) := by decide +kernel
theorem d_M_take_205 : decode (xt_code m_M_take) 205 = .ok (.iastore, 1) := by decide +kernel
theorem d_M_take_206 : decode (xt_code m_M_take) 206 = .ok (.iload_n 2, 1) := by decide +kernel
theorem d_M_take_207 : decode (xt_code m_M_take) 207 = .ok (.ireturn, 1) := by decide +kernel
theorem d_M_isRunner_0 : decode (xt_code m_M_isRunner) 0 = .ok (.iload_n 1, 1) := by decide +kernel
theorem d_M_isRunner_1 : decode (xt_code m_M_isRunner) 1 = .ok (.ifCond .lt 15, 3) := by decide +kernel
theorem d_M_isRunner_4 : decode (xt_code m_M_isRunner) 4 = .ok (.iload_n 1, 1) := by decide +kernel
theorem d_M_isRunner_5 : decode (xt_code m_M_isRunner) 5 = .ok (.aload_n 0, 1) := by decide +kernel
theorem d_M_isRunner_6 : decode (xt_code m_M_isRunner) 6 = .ok (.getfield 84, 3) := by decide +kernel
theorem d_M_isRunner_9 : decode (xt_code m_M_isRunner) 9 = .ok (.if_icmp .ge 7, 3) := by decide +kernel
theorem d_M_isRunner_12 : decode (xt_code m_M_isRunner) 12 = .ok (.iconst 1, 1) := by decide +kernel
theorem d_M_isRunner_13 : decode (xt_code m_M_isRunner) 13 = .ok (.goto 4, 3) := by decide +kernel
theorem d_M_isRunner_16 : decode (xt_code m_M_isRunner) 16 = .ok (.iconst 0, 1) := by decide +kernel
theorem d_M_isRunner_17 : decode (xt_code m_M_isRunner) 17 = .ok (.ireturn, 1) := by decide +kernel
theorem d_M_busy_0 : decode (xt_code m_M_busy) 0 = .ok (.iconst 0, 1) := by decide +kernel
theorem d_M_busy_1 : decode (xt_code m_M_busy) 1 = .ok (.istore_n 2, 1) := by decide +kernel
theorem d_M_busy_2 : decode (xt_code m_M_busy) 2 = .ok (.iconst 0, 1) := by decide +kernel
theorem d_M_busy_3 : decode (xt_code m_M_busy) 3 = .ok (.istore_n 3, 1) := by decide +kernel
theorem d_M_busy_4 : decode (xt_code m_M_busy) 4 = .ok (.iload_n 3, 1) := by decide +kernel
theorem d_M_busy_5 : decode (xt_code m_M_busy) 5 = .ok (.bipush 12, 2) := by decide +kernel
theorem d_M_busy_7 : decode (xt_code m_M_busy) 7 = .ok (.aload_n 0, 1) := by decide +kernel
theorem d_M_busy_8 : decode (xt_code m_M_busy) 8 = .ok (.getfield 81, 3) := by decide +kernel
theorem d_M_busy_11 : decode (xt_code m_M_busy) 11 = .ok (.imul, 1) := by decide +kernel
theorem d_M_busy_12 : decode (xt_code m_M_busy) 12 = .ok (.if_icmp .ge 40, 3) := by decide +kernel
theorem d_M_busy_15 : decode (xt_code m_M_busy) 15 = .ok (.iload_n 2, 1) := by decide +kernel
theorem d_M_busy_16 : decode (xt_code m_M_busy) 16 = .ok (.aload_n 0, 1) := by decide +kernel
theorem d_M_busy_17 : decode (xt_code m_M_busy) 17 = .ok (.getfield 42, 3) := by decide +kernel
theorem d_M_busy_20 : decode (xt_code m_M_busy) 20 = .ok (.iload_n 3, 1) := by decide +kernel
theorem d_M_busy_21 : decode (xt_code m_M_busy) 21 = .ok (.iaload, 1) := by decide +kernel
theorem d_M_busy_22 : decode (xt_code m_M_busy) 22 = .ok (.iconst 2, 1) := by decide +kernel
theorem d_M_busy_23 : decode (xt_code m_M_busy) 23 = .ok (.if_icmp .ne 20, 3) := by decide +kernel
theorem d_M_busy_26 : decode (xt_code m_M_busy) 26 = .ok (.aload_n 0, 1) := by decide +kernel
theorem d_M_busy_27 : decode (xt_code m_M_busy) 27 = .ok (.getfield 33, 3) := by decide +kernel
theorem d_M_busy_30 : decode (xt_code m_M_busy) 30 = .ok (.iload_n 3, 1) := by decide +kernel
theorem d_M_busy_31 : decode (xt_code m_M_busy) 31 = .ok (.bipush 12, 2) := by decide +kernel
theorem d_M_busy_33 : decode (xt_code m_M_busy) 33 = .ok (.idiv, 1) := by decide +kernel
theorem d_M_busy_34 : decode (xt_code m_M_busy) 34 = .ok (.iaload, 1) := by decide +kernel
theorem d_M_busy_35 : decode (xt_code m_M_busy) 35 = .ok (.iload_n 1, 1) := by decide +kernel
theorem d_M_busy_36 : decode (xt_code m_M_busy) 36 = .ok (.if_icmp .ne 7, 3) := by decide +kernel
theorem d_M_busy_39 : decode (xt_code m_M_busy) 39 = .ok (.iconst 1, 1) := by decide +kernel
theorem d_M_busy_40 : decode (xt_code m_M_busy) 40 = .ok (.goto 4, 3) := by decide +kernel
theorem d_M_busy_43 : decode (xt_code m_M_busy) 43 = .ok (.iconst 0, 1) := by decide +kernel
theorem d_M_busy_44 : decode (xt_code m_M_busy) 44 = .ok (.iadd, 1) := by decide +kernel
theorem d_M_busy_45 : decode (xt_code m_M_busy) 45 = .ok (.istore_n 2, 1) := by decide +kernel
theorem d_M_busy_46 : decode (xt_code m_M_busy) 46 = .ok (.iinc 3 1, 3) := by decide +kernel
theorem d_M_busy_49 : decode (xt_code m_M_busy) 49 = .ok (.goto (-45), 3) := by decide +kernel
theorem d_M_busy_52 : decode (xt_code m_M_busy) 52 = .ok (.iload_n 2, 1) := by decide +kernel
theorem d_M_busy_53 : decode (xt_code m_M_busy) 53 = .ok (.ireturn, 1) := by decide +kernel
theorem d_M_beat_0 : decode (xt_code m_M_beat) 0 = .ok (.aload_n 0, 1) := by decide +kernel
theorem d_M_beat_1 : decode (xt_code m_M_beat) 1 = .ok (.iconst 0, 1) := by decide +kernel
theorem d_M_beat_2 : decode (xt_code m_M_beat) 2 = .ok (.putfield 75, 3) := by decide +kernel
theorem d_M_beat_5 : decode (xt_code m_M_beat) 5 = .ok (.aload_n 0, 1) := by decide +kernel
theorem d_M_beat_6 : decode (xt_code m_M_beat) 6 = .ok (.iload_n 1, 1) := by decide +kernel
theorem d_M_beat_7 : decode (xt_code m_M_beat) 7 = .ok (.invokevirtual 124, 3) := by decide +kernel
theorem d_M_beat_10 : decode (xt_code m_M_beat) 10 = .ok (.ifCond .eq 13, 3) := by decide +kernel
theorem d_M_beat_13 : decode (xt_code m_M_beat) 13 = .ok (.aload_n 0, 1) := by decide +kernel
theorem d_M_beat_14 : decode (xt_code m_M_beat) 14 = .ok (.getfield 72, 3) := by decide +kernel
theorem d_M_beat_17 : decode (xt_code m_M_beat) 17 = .ok (.iload_n 1, 1) := by decide +kernel
theorem d_M_beat_18 : decode (xt_code m_M_beat) 18 = .ok (.iaload, 1) := by decide +kernel
theorem d_M_beat_19 : decode (xt_code m_M_beat) 19 = .ok (.iconst (-1), 1) := by decide +kernel
theorem d_M_beat_20 : decode (xt_code m_M_beat) 20 = .ok (.if_icmp .ne 5, 3) := by decide +kernel
theorem d_M_beat_23 : decode (xt_code m_M_beat) 23 = .ok (.iconst 0, 1) := by decide +kernel
theorem d_M_beat_24 : decode (xt_code m_M_beat) 24 = .ok (.ireturn, 1) := by decide +kernel
theorem d_M_beat_25 : decode (xt_code m_M_beat) 25 = .ok (.aload_n 0, 1) := by decide +kernel
theorem d_M_beat_26 : decode (xt_code m_M_beat) 26 = .ok (.getfield 69, 3) := by decide +kernel
theorem d_M_beat_29 : decode (xt_code m_M_beat) 29 = .ok (.iload_n 1, 1) := by decide +kernel
theorem d_M_beat_30 : decode (xt_code m_M_beat) 30 = .ok (.aload_n 0, 1) := by decide +kernel
theorem d_M_beat_31 : decode (xt_code m_M_beat) 31 = .ok (.getfield 91, 3) := by decide +kernel
theorem d_M_beat_34 : decode (xt_code m_M_beat) 34 = .ok (.iastore, 1) := by decide +kernel
theorem d_M_beat_35 : decode (xt_code m_M_beat) 35 = .ok (.iconst 1, 1) := by decide +kernel
theorem d_M_beat_36 : decode (xt_code m_M_beat) 36 = .ok (.ireturn, 1) := by decide +kernel
theorem d_M_end_0 : decode (xt_code m_M_end) 0 = .ok (.aload_n 0, 1) := by decide +kernel
theorem d_M_end_1 : decode (xt_code m_M_end) 1 = .ok (.iconst 0, 1) := by decide +kernel
theorem d_M_end_2 : decode (xt_code m_M_end) 2 = .ok (.putfield 75, 3) := by decide +kernel
theorem d_M_end_5 : decode (xt_code m_M_end) 5 = .ok (.aload_n 0, 1) := by decide +kernel
theorem d_M_end_6 : decode (xt_code m_M_end) 6 = .ok (.iload_n 1, 1) := by decide +kernel
theorem d_M_end_7 : decode (xt_code m_M_end) 7 = .ok (.invokevirtual 124, 3) := by decide +kernel
theorem d_M_end_10 : decode (xt_code m_M_end) 10 = .ok (.ifCond .eq 13, 3) := by decide +kernel
theorem d_M_end_13 : decode (xt_code m_M_end) 13 = .ok (.aload_n 0, 1) := by decide +kernel
theorem d_M_end_14 : decode (xt_code m_M_end) 14 = .ok (.getfield 72, 3) := by decide +kernel
theorem d_M_end_17 : decode (xt_code m_M_end) 17 = .ok (.iload_n 1, 1) := by decide +kernel
theorem d_M_end_18 : decode (xt_code m_M_end) 18 = .ok (.iaload, 1) := by decide +kernel
theorem d_M_end_19 : decode (xt_code m_M_end) 19 = .ok (.iconst (-1), 1) := by decide +kernel
theorem d_M_end_20 : decode (xt_code m_M_end) 20 = .ok (.if_icmp .ne 5, 3) := by decide +kernel
theorem d_M_end_23 : decode (xt_code m_M_end) 23 = .ok (.iconst 0, 1) := by decide +kernel
theorem d_M_end_24 : decode (xt_code m_M_end) 24 = .ok (.ireturn, 1) := by decide +kernel
theorem d_M_end_25 : decode (xt_code m_M_end) 25 = .ok (.aload_n 0, 1) := by decide +kernel
theorem d_M_end_26 : decode (xt_code m_M_end) 26 = .ok (.getfield 72, 3) := by decide +kernel
theorem d_M_end_29 : decode (xt_code m_M_end) 29 = .ok (.iload_n 1, 1) := by decide +kernel
theorem d_M_end_30 : decode (xt_code m_M_end) 30 = .ok (.iaload, 1) := by decide +kernel
theorem d_M_end_31 : decode (xt_code m_M_end) 31 = .ok (.istore 4, 2) := by decide +kernel
theorem d_M_end_33 : decode (xt_code m_M_end) 33 = .ok (.iload_n 2, 1) := by decide +kernel
theorem d_M_end_34 : decode (xt_code m_M_end) 34 = .ok (.ifCond .eq 29, 3) := by decide +kernel
theorem d_M_end_37 : decode (xt_code m_M_end) 37 = .ok (.aload_n 0, 1) := by decide +kernel
theorem d_M_end_38 : decode (xt_code m_M_end) 38 = .ok (.getfield 42, 3) := by decide +kernel
theorem d_M_end_41 : decode (xt_code m_M_end) 41 = .ok (.iload 4, 2) := by decide +kernel
theorem d_M_end_43 : decode (xt_code m_M_end) 43 = .ok (.iconst 3, 1) := by decide +kernel
theorem d_M_end_44 : decode (xt_code m_M_end) 44 = .ok (.iastore, 1) := by decide +kernel
theorem d_M_end_45 : decode (xt_code m_M_end) 45 = .ok (.aload_n 0, 1) := by decide +kernel
theorem d_M_end_46 : decode (xt_code m_M_end) 46 = .ok (.getfield 60, 3) := by decide +kernel
theorem d_M_end_49 : decode (xt_code m_M_end) 49 = .ok (.iload 4, 2) := by decide +kernel
theorem d_M_end_51 : decode (xt_code m_M_end) 51 = .ok (.iload_n 3, 1) := by decide +kernel
theorem d_M_end_52 : decode (xt_code m_M_end) 52 = .ok (.iastore, 1) := by decide +kernel
theorem d_M_end_53 : decode (xt_code m_M_end) 53 = .ok (.aload_n 0, 1) := by decide +kernel
theorem d_M_end_54 : decode (xt_code m_M_end) 54 = .ok (.getfield 72, 3) := by decide +kernel
theorem d_M_end_57 : decode (xt_code m_M_end) 57 = .ok (.iload_n 1, 1) := by decide +kernel
theorem d_M_end_58 : decode (xt_code m_M_end) 58 = .ok (.iconst (-1), 1) := by decide +kernel
theorem d_M_end_59 : decode (xt_code m_M_end) 59 = .ok (.iastore, 1) := by decide +kernel
theorem d_M_end_60 : decode (xt_code m_M_end) 60 = .ok (.goto 9, 3) := by decide +kernel
theorem d_M_end_63 : decode (xt_code m_M_end) 63 = .ok (.aload_n 0, 1) := by decide +kernel
theorem d_M_end_64 : decode (xt_code m_M_end) 64 = .ok (.iload 4, 2) := by decide +kernel
theorem d_M_end_66 : decode (xt_code m_M_end) 66 = .ok (.invokevirtual 131, 3) := by decide +kernel
theorem d_M_end_69 : decode (xt_code m_M_end) 69 = .ok (.aload_n 0, 1) := by decide +kernel
theorem d_M_end_70 : decode (xt_code m_M_end) 70 = .ok (.invokevirtual 114, 3) := by decide +kernel
theorem d_M_end_73 : decode (xt_code m_M_end) 73 = .ok (.iconst 1, 1) := by decide +kernel
theorem d_M_end_74 : decode (xt_code m_M_end) 74 = .ok (.ireturn, 1) := by decide +kernel
theorem d_M_failTry_0 : decode (xt_code m_M_failTry) 0 = .ok (.aload_n 0, 1) := by decide +kernel
theorem d_M_failTry_1 : decode (xt_code m_M_failTry) 1 = .ok (.getfield 51, 3) := by decide +kernel
theorem d_M_failTry_4 : decode (xt_code m_M_failTry) 4 = .ok (.iload_n 1, 1) := by decide +kernel
theorem d_M_failTry_5 : decode (xt_code m_M_failTry) 5 = .ok (.dup2, 1) := by decide +kernel
theorem d_M_failTry_6 : decode (xt_code m_M_failTry) 6 = .ok (.iaload, 1) := by decide +kernel
theorem d_M_failTry_7 : decode (xt_code m_M_failTry) 7 = .ok (.iconst 1, 1) := by decide +kernel
theorem d_M_failTry_8 : decode (xt_code m_M_failTry) 8 = .ok (.iadd, 1) := by decide +kernel
theorem d_M_failTry_9 : decode (xt_code m_M_failTry) 9 = .ok (.iastore, 1) := by decide +kernel
theorem d_M_failTry_10 : decode (xt_code m_M_failTry) 10 = .ok (.aload_n 0, 1) := by decide +kernel
theorem d_M_failTry_11 : decode (xt_code m_M_failTry) 11 = .ok (.getfield 42, 3) := by decide +kernel
theorem d_M_failTry_14 : decode (xt_code m_M_failTry) 14 = .ok (.iload_n 1, 1) := by decide +kernel
theorem d_M_failTry_15 : decode (xt_code m_M_failTry) 15 = .ok (.aload_n 0, 1) := by decide +kernel
theorem d_M_failTry_16 : decode (xt_code m_M_failTry) 16 = .ok (.getfield 51, 3) := by decide +kernel
theorem d_M_failTry_19 : decode (xt_code m_M_failTry) 19 = .ok (.iload_n 1, 1) := by decide +kernel
theorem d_M_failTry_20 : decode (xt_code m_M_failTry) 20 = .ok (.iaload, 1) := by decide +kernel
theorem d_M_failTry_21 : decode (xt_code m_M_failTry) 21 = .ok (.aload_n 0, 1) := by decide +kernel
theorem d_M_failTry_22 : decode (xt_code m_M_failTry) 22 = .ok (.getfield 20, 3) := by decide +kernel
theorem d_M_failTry_25 : decode (xt_code m_M_failTry) 25 = .ok (.iload_n 1, 1) := by decide +kernel
theorem d_M_failTry_26 : decode (xt_code m_M_failTry) 26 = .ok (.bipush 12, 2) := by decide +kernel
theorem d_M_failTry_28 : decode (xt_code m_M_failTry) 28 = .ok (.irem, 1) := by decide +kernel
theorem d_M_failTry_29 : decode (xt_code m_M_failTry) 29 = .ok (.iaload, 1) := by decide +kernel
theorem d_M_failTry_30 : decode (xt_code m_M_failTry) 30 = .ok (.if_icmp .le 7, 3) := by decide +kernel
theorem d_M_failTry_33 : decode (xt_code m_M_failTry) 33 = .ok (.iconst 4, 1) := by decide +kernel
theorem d_M_failTry_34 : decode (xt_code m_M_failTry) 34 = .ok (.goto 4, 3) := by decide +kernel
theorem d_M_failTry_37 : decode (xt_code m_M_failTry) 37 = .ok (.iconst 1, 1) := by decide +kernel
theorem d_M_failTry_38 : decode (xt_code m_M_failTry) 38 = .ok (.iastore, 1) := by decide +kernel
theorem d_M_failTry_39 : decode (xt_code m_M_failTry) 39 = .ok (.aload_n 0, 1) := by decide +kernel
theorem d_M_failTry_40 : decode (xt_code m_M_failTry) 40 = .ok (.iload_n 1, 1) := by decide +kernel
theorem d_M_failTry_41 : decode (xt_code m_M_failTry) 41 = .ok (.invokevirtual 104, 3) := by decide +kernel
theorem d_M_failTry_44 : decode (xt_code m_M_failTry) 44 = .ok (.return_, 1) := by decide +kernel
theorem d_M_tick_0 : decode (xt_code m_M_tick) 0 = .ok (.aload_n 0, 1) := by decide +kernel
theorem d_M_tick_1 : decode (xt_code m_M_tick) 1 = .ok (.iconst 0, 1) := by decide +kernel
theorem d_M_tick_2 : decode (xt_code m_M_tick) 2 = .ok (.putfield 75, 3) := by decide +kernel
theorem d_M_tick_5 : decode (xt_code m_M_tick) 5 = .ok (.iload_n 1, 1) := by decide +kernel
theorem d_M_tick_6 : decode (xt_code m_M_tick) 6 = .ok (.ifCond .lt 10, 3) := by decide +kernel
theorem d_M_tick_9 : decode (xt_code m_M_tick) 9 = .ok (.iload_n 1, 1) := by decide +kernel
theorem d_M_tick_10 : decode (xt_code m_M_tick) 10 = .ok (.sipush 1000, 3) := by decide +kernel
theorem d_M_tick_13 : decode (xt_code m_M_tick) 13 = .ok (.if_icmp .le 5, 3) := by decide +kernel
theorem d_M_tick_16 : decode (xt_code m_M_tick) 16 = .ok (.iconst (-1), 1) := by decide +kernel
theorem d_M_tick_17 : decode (xt_code m_M_tick) 17 = .ok (.ireturn, 1) := by decide +kernel
theorem d_M_tick_18 : decode (xt_code m_M_tick) 18 = .ok (.iconst 0, 1) := by decide +kernel
theorem d_M_tick_19 : decode (xt_code m_M_tick) 19 = .ok (.istore_n 2, 1) := by decide +kernel
theorem d_M_tick_20 : decode (xt_code m_M_tick) 20 = .ok (.iload_n 2, 1) := by decide +kernel
theorem d_M_tick_21 : decode (xt_code m_M_tick) 21 = .ok (.iload_n 1, 1) := by decide +kernel
theorem d_M_tick_22 : decode (xt_code m_M_tick) 22 = .ok (.if_icmp .ge 43, 3) := by decide +kernel
theorem d_M_tick_25 : decode (xt_code m_M_tick) 25 = .ok (.aload_n 0, 1) := by decide +kernel
theorem d_M_tick_26 : decode (xt_code m_M_tick) 26 = .ok (.dup, 1) := by decide +kernel
theorem d_M_tick_27 : decode (xt_code m_M_tick) 27 = .ok (.getfield 91, 3) := by decide +kernel
theorem d_M_tick_30 : decode (xt_code m_M_tick) 30 = .ok (.iconst 1, 1) := by decide +kernel
theorem d_M_tick_31 : decode (xt_code m_M_tick) 31 = .ok (.iadd, 1) := by decide +kernel
theorem d_M_tick_32 : decode (xt_code m_M_tick) 32 = .ok (.putfield 91, 3) := by decide +kernel
theorem d_M_tick_35 : decode (xt_code m_M_tick) 35 = .ok (.iconst 0, 1) := by decide +kernel
theorem d_M_tick_36 : decode (xt_code m_M_tick) 36 = .ok (.istore_n 3, 1) := by decide +kernel
theorem d_M_tick_37 : decode (xt_code m_M_tick) 37 = .ok (.iload_n 3, 1) := by decide +kernel
theorem d_M_tick_38 : decode (xt_code m_M_tick) 38 = .ok (.bipush 12, 2) := by decide +kernel
theorem d_M_tick_40 : decode (xt_code m_M_tick) 40 = .ok (.aload_n 0, 1) := by decide +kernel
theorem d_M_tick_41 : decode (xt_code m_M_tick) 41 = .ok (.getfield 81, 3) := by decide +kernel
theorem d_M_tick_44 : decode (xt_code m_M_tick) 44 = .ok (.imul, 1) := by decide +kernel
theorem d_M_tick_45 : decode (xt_code m_M_tick) 45 = .ok (.if_icmp .ge 14, 3) := by decide +kernel
theorem d_M_tick_48 : decode (xt_code m_M_tick) 48 = .ok (.aload_n 0, 1) := by decide +kernel
theorem d_M_tick_49 : decode (xt_code m_M_tick) 49 = .ok (.iload_n 3, 1) := by decide +kernel
theorem d_M_tick_50 : decode (xt_code m_M_tick) 50 = .ok (.invokevirtual 137, 3) := by decide +kernel
theorem d_M_tick_53 : decode (xt_code m_M_tick) 53 = .ok (.iinc 3 1, 3) := by decide +kernel
theorem d_M_tick_56 : decode (xt_code m_M_tick) 56 = .ok (.goto (-19), 3) := by decide +kernel
theorem d_M_tick_59 : decode (xt_code m_M_tick) 59 = .ok (.iinc 2 1, 3) := by decide +kernel
theorem d_M_tick_62 : decode (xt_code m_M_tick) 62 = .ok (.goto (-42), 3) := by decide +kernel
theorem d_M_tick_65 : decode (xt_code m_M_tick) 65 = .ok (.aload_n 0, 1) := by decide +kernel
theorem d_M_tick_66 : decode (xt_code m_M_tick) 66 = .ok (.invokevirtual 114, 3) := by decide +kernel
theorem d_M_tick_69 : decode (xt_code m_M_tick) 69 = .ok (.aload_n 0, 1) := by decide +kernel
theorem d_M_tick_70 : decode (xt_code m_M_tick) 70 = .ok (.getfield 91, 3) := by decide +kernel
theorem d_M_tick_73 : decode (xt_code m_M_tick) 73 = .ok (.ireturn, 1) := by decide +kernel
theorem d_M_pass_0 : decode (xt_code m_M_pass) 0 = .ok (.aload_n 0, 1) := by decide +kernel
theorem d_M_pass_1 : decode (xt_code m_M_pass) 1 = .ok (.getfield 42, 3) := by decide +kernel
theorem d_M_pass_4 : decode (xt_code m_M_pass) 4 = .ok (.iload_n 1, 1) := by decide +kernel
theorem d_M_pass_5 : decode (xt_code m_M_pass) 5 = .ok (.iaload, 1) := by decide +kernel
theorem d_M_pass_6 : decode (xt_code m_M_pass) 6 = .ok (.iconst 2, 1) := by decide +kernel
theorem d_M_pass_7 : decode (xt_code m_M_pass) 7 = .ok (.if_icmp .eq 4, 3) := by decide +kernel
theorem d_M_pass_10 : decode (xt_code m_M_pass) 10 = .ok (.return_, 1) := by decide +kernel
theorem d_M_pass_11 : decode (xt_code m_M_pass) 11 = .ok (.iload_n 1, 1) := by decide +kernel
theorem d_M_pass_12 : decode (xt_code m_M_pass) 12 = .ok (.bipush 12, 2) := by decide +kernel
theorem d_M_pass_14 : decode (xt_code m_M_pass) 14 = .ok (.irem, 1) := by decide +kernel
theorem d_M_pass_15 : decode (xt_code m_M_pass) 15 = .ok (.istore_n 2, 1) := by decide +kernel
theorem d_M_pass_16 : decode (xt_code m_M_pass) 16 = .ok (.aload_n 0, 1) := by decide +kernel
theorem d_M_pass_17 : decode (xt_code m_M_pass) 17 = .ok (.getfield 91, 3) := by decide +kernel
theorem d_M_pass_20 : decode (xt_code m_M_pass) 20 = .ok (.aload_n 0, 1) := by decide +kernel
theorem d_M_pass_21 : decode (xt_code m_M_pass) 21 = .ok (.getfield 69, 3) := by decide +kernel
theorem d_M_pass_24 : decode (xt_code m_M_pass) 24 = .ok (.aload_n 0, 1) := by decide +kernel
theorem d_M_pass_25 : decode (xt_code m_M_pass) 25 = .ok (.iload_n 1, 1) := by decide +kernel
theorem d_M_pass_26 : decode (xt_code m_M_pass) 26 = .ok (.invokevirtual 134, 3) := by decide +kernel
theorem d_M_pass_29 : decode (xt_code m_M_pass) 29 = .ok (.iaload, 1) := by decide +kernel
theorem d_M_pass_30 : decode (xt_code m_M_pass) 30 = .ok (.isub, 1) := by decide +kernel
theorem d_M_pass_31 : decode (xt_code m_M_pass) 31 = .ok (.aload_n 0, 1) := by decide +kernel
theorem d_M_pass_32 : decode (xt_code m_M_pass) 32 = .ok (.getfield 7, 3) := by decide +kernel
theorem d_M_pass_35 : decode (xt_code m_M_pass) 35 = .ok (.if_icmp .le 52, 3) := by decide +kernel
theorem d_M_pass_38 : decode (xt_code m_M_pass) 38 = .ok (.aload_n 0, 1) := by decide +kernel
theorem d_M_pass_39 : decode (xt_code m_M_pass) 39 = .ok (.getfield 54, 3) := by decide +kernel
theorem d_M_pass_42 : decode (xt_code m_M_pass) 42 = .ok (.iload_n 1, 1) := by decide +kernel
theorem d_M_pass_43 : decode (xt_code m_M_pass) 43 = .ok (.dup2, 1) := by decide +kernel
theorem d_M_pass_44 : decode (xt_code m_M_pass) 44 = .ok (.iaload, 1) := by decide +kernel
theorem d_M_pass_45 : decode (xt_code m_M_pass) 45 = .ok (.iconst 1, 1) := by decide +kernel
theorem d_M_pass_46 : decode (xt_code m_M_pass) 46 = .ok (.iadd, 1) := by decide +kernel
theorem d_M_pass_47 : decode (xt_code m_M_pass) 47 = .ok (.iastore, 1) := by decide +kernel
theorem d_M_pass_48 : decode (xt_code m_M_pass) 48 = .ok (.aload_n 0, 1) := by decide +kernel
theorem d_M_pass_49 : decode (xt_code m_M_pass) 49 = .ok (.getfield 57, 3) := by decide +kernel
theorem d_M_pass_52 : decode (xt_code m_M_pass) 52 = .ok (.iload_n 1, 1) := by decide +kernel
theorem d_M_pass_53 : decode (xt_code m_M_pass) 53 = .ok (.dup2, 1) := by decide +kernel
theorem d_M_pass_54 : decode (xt_code m_M_pass) 54 = .ok (.iaload, 1) := by decide +kernel
theorem d_M_pass_55 : decode (xt_code m_M_pass) 55 = .ok (.iconst 1, 1) := by decide +kernel
end
section
/-! decode rows, by program -/
theorem d_M_pass_56 : decode (xt_code m_M_pass) 56 = .ok (.iadd, 1) := by decide +kernel
theorem d_M_pass_57 : decode (xt_code m_M_pass) 57 = .ok (.iastore, 1) := by decide +kernel
theorem d_M_pass_58 : decode (xt_code m_M_pass) 58 = .ok (.aload_n 0, 1) := by decide +kernel
theorem d_M_pass_59 : decode (xt_code m_M_pass) 59 = .ok (.getfield 42, 3) := by decide +kernel
theorem d_M_pass_62 : decode (xt_code m_M_pass) 62 = .ok (.iload_n 1, 1) := by decide +kernel
theorem d_M_pass_63 : decode (xt_code m_M_pass) 63 = .ok (.aload_n 0, 1) := by decide +kernel
theorem d_M_pass_64 : decode (xt_code m_M_pass) 64 = .ok (.getfield 57, 3) := by decide +kernel
theorem d_M_pass_67 : decode (xt_code m_M_pass) 67 = .ok (.iload_n 1, 1) := by decide +kernel
theorem d_M_pass_68 : decode (xt_code m_M_pass) 68 = .ok (.iaload, 1) := by decide +kernel
theorem d_M_pass_69 : decode (xt_code m_M_pass) 69 = .ok (.iconst 1, 1) := by decide +kernel
theorem d_M_pass_70 : decode (xt_code m_M_pass) 70 = .ok (.if_icmp .le 7, 3) := by decide +kernel
theorem d_M_pass_73 : decode (xt_code m_M_pass) 73 = .ok (.iconst 4, 1) := by decide +kernel
theorem d_M_pass_74 : decode (xt_code m_M_pass) 74 = .ok (.goto 4, 3) := by decide +kernel
theorem d_M_pass_77 : decode (xt_code m_M_pass) 77 = .ok (.iconst 1, 1) := by decide +kernel
theorem d_M_pass_78 : decode (xt_code m_M_pass) 78 = .ok (.iastore, 1) := by decide +kernel
theorem d_M_pass_79 : decode (xt_code m_M_pass) 79 = .ok (.aload_n 0, 1) := by decide +kernel
theorem d_M_pass_80 : decode (xt_code m_M_pass) 80 = .ok (.iload_n 1, 1) := by decide +kernel
theorem d_M_pass_81 : decode (xt_code m_M_pass) 81 = .ok (.invokevirtual 104, 3) := by decide +kernel
theorem d_M_pass_84 : decode (xt_code m_M_pass) 84 = .ok (.goto 37, 3) := by decide +kernel
theorem d_M_pass_87 : decode (xt_code m_M_pass) 87 = .ok (.aload_n 0, 1) := by decide +kernel
theorem d_M_pass_88 : decode (xt_code m_M_pass) 88 = .ok (.getfield 17, 3) := by decide +kernel
theorem d_M_pass_91 : decode (xt_code m_M_pass) 91 = .ok (.iload_n 2, 1) := by decide +kernel
theorem d_M_pass_92 : decode (xt_code m_M_pass) 92 = .ok (.iaload, 1) := by decide +kernel
theorem d_M_pass_93 : decode (xt_code m_M_pass) 93 = .ok (.ifCond .le 28, 3) := by decide +kernel
theorem d_M_pass_96 : decode (xt_code m_M_pass) 96 = .ok (.aload_n 0, 1) := by decide +kernel
theorem d_M_pass_97 : decode (xt_code m_M_pass) 97 = .ok (.getfield 91, 3) := by decide +kernel
theorem d_M_pass_100 : decode (xt_code m_M_pass) 100 = .ok (.aload_n 0, 1) := by decide +kernel
theorem d_M_pass_101 : decode (xt_code m_M_pass) 101 = .ok (.getfield 45, 3) := by decide +kernel
theorem d_M_pass_104 : decode (xt_code m_M_pass) 104 = .ok (.iload_n 1, 1) := by decide +kernel
theorem d_M_pass_105 : decode (xt_code m_M_pass) 105 = .ok (.iaload, 1) := by decide +kernel
theorem d_M_pass_106 : decode (xt_code m_M_pass) 106 = .ok (.isub, 1) := by decide +kernel
theorem d_M_pass_107 : decode (xt_code m_M_pass) 107 = .ok (.aload_n 0, 1) := by decide +kernel
theorem d_M_pass_108 : decode (xt_code m_M_pass) 108 = .ok (.getfield 17, 3) := by decide +kernel
theorem d_M_pass_111 : decode (xt_code m_M_pass) 111 = .ok (.iload_n 2, 1) := by decide +kernel
theorem d_M_pass_112 : decode (xt_code m_M_pass) 112 = .ok (.iaload, 1) := by decide +kernel
theorem d_M_pass_113 : decode (xt_code m_M_pass) 113 = .ok (.if_icmp .lt 8, 3) := by decide +kernel
theorem d_M_pass_116 : decode (xt_code m_M_pass) 116 = .ok (.aload_n 0, 1) := by decide +kernel
theorem d_M_pass_117 : decode (xt_code m_M_pass) 117 = .ok (.iload_n 1, 1) := by decide +kernel
theorem d_M_pass_118 : decode (xt_code m_M_pass) 118 = .ok (.invokevirtual 131, 3) := by decide +kernel
theorem d_M_pass_121 : decode (xt_code m_M_pass) 121 = .ok (.return_, 1) := by decide +kernel
theorem d_M_runnerOf_0 : decode (xt_code m_M_runnerOf) 0 = .ok (.iconst (-1), 1) := by decide +kernel
theorem d_M_runnerOf_1 : decode (xt_code m_M_runnerOf) 1 = .ok (.istore_n 2, 1) := by decide +kernel
theorem d_M_runnerOf_2 : decode (xt_code m_M_runnerOf) 2 = .ok (.iconst 0, 1) := by decide +kernel
theorem d_M_runnerOf_3 : decode (xt_code m_M_runnerOf) 3 = .ok (.istore_n 3, 1) := by decide +kernel
theorem d_M_runnerOf_4 : decode (xt_code m_M_runnerOf) 4 = .ok (.iload_n 3, 1) := by decide +kernel
theorem d_M_runnerOf_5 : decode (xt_code m_M_runnerOf) 5 = .ok (.aload_n 0, 1) := by decide +kernel
theorem d_M_runnerOf_6 : decode (xt_code m_M_runnerOf) 6 = .ok (.getfield 84, 3) := by decide +kernel
theorem d_M_runnerOf_9 : decode (xt_code m_M_runnerOf) 9 = .ok (.if_icmp .ge 25, 3) := by decide +kernel
theorem d_M_runnerOf_12 : decode (xt_code m_M_runnerOf) 12 = .ok (.aload_n 0, 1) := by decide +kernel
theorem d_M_runnerOf_13 : decode (xt_code m_M_runnerOf) 13 = .ok (.getfield 72, 3) := by decide +kernel
theorem d_M_runnerOf_16 : decode (xt_code m_M_runnerOf) 16 = .ok (.iload_n 3, 1) := by decide +kernel
theorem d_M_runnerOf_17 : decode (xt_code m_M_runnerOf) 17 = .ok (.iaload, 1) := by decide +kernel
theorem d_M_runnerOf_18 : decode (xt_code m_M_runnerOf) 18 = .ok (.iload_n 1, 1) := by decide +kernel
theorem d_M_runnerOf_19 : decode (xt_code m_M_runnerOf) 19 = .ok (.if_icmp .ne 7, 3) := by decide +kernel
theorem d_M_runnerOf_22 : decode (xt_code m_M_runnerOf) 22 = .ok (.iload_n 3, 1) := by decide +kernel
theorem d_M_runnerOf_23 : decode (xt_code m_M_runnerOf) 23 = .ok (.goto 4, 3) := by decide +kernel
theorem d_M_runnerOf_26 : decode (xt_code m_M_runnerOf) 26 = .ok (.iload_n 2, 1) := by decide +kernel
theorem d_M_runnerOf_27 : decode (xt_code m_M_runnerOf) 27 = .ok (.istore_n 2, 1) := by decide +kernel
theorem d_M_runnerOf_28 : decode (xt_code m_M_runnerOf) 28 = .ok (.iinc 3 1, 3) := by decide +kernel
theorem d_M_runnerOf_31 : decode (xt_code m_M_runnerOf) 31 = .ok (.goto (-27), 3) := by decide +kernel
theorem d_M_runnerOf_34 : decode (xt_code m_M_runnerOf) 34 = .ok (.iload_n 2, 1) := by decide +kernel
theorem d_M_runnerOf_35 : decode (xt_code m_M_runnerOf) 35 = .ok (.ireturn, 1) := by decide +kernel
theorem d_M_cancel_0 : decode (xt_code m_M_cancel) 0 = .ok (.aload_n 0, 1) := by decide +kernel
theorem d_M_cancel_1 : decode (xt_code m_M_cancel) 1 = .ok (.iconst 0, 1) := by decide +kernel
theorem d_M_cancel_2 : decode (xt_code m_M_cancel) 2 = .ok (.putfield 75, 3) := by decide +kernel
theorem d_M_cancel_5 : decode (xt_code m_M_cancel) 5 = .ok (.aload_n 0, 1) := by decide +kernel
theorem d_M_cancel_6 : decode (xt_code m_M_cancel) 6 = .ok (.iload_n 1, 1) := by decide +kernel
theorem d_M_cancel_7 : decode (xt_code m_M_cancel) 7 = .ok (.invokevirtual 117, 3) := by decide +kernel
theorem d_M_cancel_10 : decode (xt_code m_M_cancel) 10 = .ok (.ifCond .eq 20, 3) := by decide +kernel
theorem d_M_cancel_13 : decode (xt_code m_M_cancel) 13 = .ok (.aload_n 0, 1) := by decide +kernel
theorem d_M_cancel_14 : decode (xt_code m_M_cancel) 14 = .ok (.getfield 39, 3) := by decide +kernel
theorem d_M_cancel_17 : decode (xt_code m_M_cancel) 17 = .ok (.iload_n 1, 1) := by decide +kernel
theorem d_M_cancel_18 : decode (xt_code m_M_cancel) 18 = .ok (.baload, 1) := by decide +kernel
theorem d_M_cancel_19 : decode (xt_code m_M_cancel) 19 = .ok (.ifCond .ne 11, 3) := by decide +kernel
theorem d_M_cancel_22 : decode (xt_code m_M_cancel) 22 = .ok (.aload_n 0, 1) := by decide +kernel
theorem d_M_cancel_23 : decode (xt_code m_M_cancel) 23 = .ok (.iload_n 1, 1) := by decide +kernel
theorem d_M_cancel_24 : decode (xt_code m_M_cancel) 24 = .ok (.invokevirtual 108, 3) := by decide +kernel
theorem d_M_cancel_27 : decode (xt_code m_M_cancel) 27 = .ok (.ifCond .eq 5, 3) := by decide +kernel
theorem d_M_cancel_30 : decode (xt_code m_M_cancel) 30 = .ok (.iconst 0, 1) := by decide +kernel
theorem d_M_cancel_31 : decode (xt_code m_M_cancel) 31 = .ok (.ireturn, 1) := by decide +kernel
theorem d_M_cancel_32 : decode (xt_code m_M_cancel) 32 = .ok (.aload_n 0, 1) := by decide +kernel
theorem d_M_cancel_33 : decode (xt_code m_M_cancel) 33 = .ok (.iload_n 1, 1) := by decide +kernel
theorem d_M_cancel_34 : decode (xt_code m_M_cancel) 34 = .ok (.invokevirtual 111, 3) := by decide +kernel
theorem d_M_cancel_37 : decode (xt_code m_M_cancel) 37 = .ok (.aload_n 0, 1) := by decide +kernel
theorem d_M_cancel_38 : decode (xt_code m_M_cancel) 38 = .ok (.invokevirtual 114, 3) := by decide +kernel
theorem d_M_cancel_41 : decode (xt_code m_M_cancel) 41 = .ok (.iconst 1, 1) := by decide +kernel
theorem d_M_cancel_42 : decode (xt_code m_M_cancel) 42 = .ok (.ireturn, 1) := by decide +kernel
theorem d_M_again_0 : decode (xt_code m_M_again) 0 = .ok (.aload_n 0, 1) := by decide +kernel
theorem d_M_again_1 : decode (xt_code m_M_again) 1 = .ok (.iconst 0, 1) := by decide +kernel
theorem d_M_again_2 : decode (xt_code m_M_again) 2 = .ok (.putfield 75, 3) := by decide +kernel
theorem d_M_again_5 : decode (xt_code m_M_again) 5 = .ok (.aload_n 0, 1) := by decide +kernel
theorem d_M_again_6 : decode (xt_code m_M_again) 6 = .ok (.iload_n 1, 1) := by decide +kernel
theorem d_M_again_7 : decode (xt_code m_M_again) 7 = .ok (.invokevirtual 117, 3) := by decide +kernel
theorem d_M_again_10 : decode (xt_code m_M_again) 10 = .ok (.ifCond .eq 20, 3) := by decide +kernel
theorem d_M_again_13 : decode (xt_code m_M_again) 13 = .ok (.aload_n 0, 1) := by decide +kernel
theorem d_M_again_14 : decode (xt_code m_M_again) 14 = .ok (.getfield 39, 3) := by decide +kernel
theorem d_M_again_17 : decode (xt_code m_M_again) 17 = .ok (.iload_n 1, 1) := by decide +kernel
theorem d_M_again_18 : decode (xt_code m_M_again) 18 = .ok (.baload, 1) := by decide +kernel
theorem d_M_again_19 : decode (xt_code m_M_again) 19 = .ok (.ifCond .ne 11, 3) := by decide +kernel
theorem d_M_again_22 : decode (xt_code m_M_again) 22 = .ok (.aload_n 0, 1) := by decide +kernel
theorem d_M_again_23 : decode (xt_code m_M_again) 23 = .ok (.iload_n 1, 1) := by decide +kernel
theorem d_M_again_24 : decode (xt_code m_M_again) 24 = .ok (.invokevirtual 108, 3) := by decide +kernel
theorem d_M_again_27 : decode (xt_code m_M_again) 27 = .ok (.ifCond .ne 5, 3) := by decide +kernel
theorem d_M_again_30 : decode (xt_code m_M_again) 30 = .ok (.iconst (-1), 1) := by decide +kernel
theorem d_M_again_31 : decode (xt_code m_M_again) 31 = .ok (.ireturn, 1) := by decide +kernel
theorem d_M_again_32 : decode (xt_code m_M_again) 32 = .ok (.iconst 0, 1) := by decide +kernel
theorem d_M_again_33 : decode (xt_code m_M_again) 33 = .ok (.istore_n 2, 1) := by decide +kernel
theorem d_M_again_34 : decode (xt_code m_M_again) 34 = .ok (.iconst 0, 1) := by decide +kernel
theorem d_M_again_35 : decode (xt_code m_M_again) 35 = .ok (.istore_n 3, 1) := by decide +kernel
theorem d_M_again_36 : decode (xt_code m_M_again) 36 = .ok (.iload_n 3, 1) := by decide +kernel
theorem d_M_again_37 : decode (xt_code m_M_again) 37 = .ok (.aload_n 0, 1) := by decide +kernel
theorem d_M_again_38 : decode (xt_code m_M_again) 38 = .ok (.getfield 78, 3) := by decide +kernel
theorem d_M_again_41 : decode (xt_code m_M_again) 41 = .ok (.if_icmp .ge 69, 3) := by decide +kernel
theorem d_M_again_44 : decode (xt_code m_M_again) 44 = .ok (.bipush 12, 2) := by decide +kernel
theorem d_M_again_46 : decode (xt_code m_M_again) 46 = .ok (.iload_n 1, 1) := by decide +kernel
theorem d_M_again_47 : decode (xt_code m_M_again) 47 = .ok (.imul, 1) := by decide +kernel
theorem d_M_again_48 : decode (xt_code m_M_again) 48 = .ok (.iload_n 3, 1) := by decide +kernel
theorem d_M_again_49 : decode (xt_code m_M_again) 49 = .ok (.iadd, 1) := by decide +kernel
theorem d_M_again_50 : decode (xt_code m_M_again) 50 = .ok (.istore 4, 2) := by decide +kernel
theorem d_M_again_52 : decode (xt_code m_M_again) 52 = .ok (.aload_n 0, 1) := by decide +kernel
theorem d_M_again_53 : decode (xt_code m_M_again) 53 = .ok (.getfield 42, 3) := by decide +kernel
theorem d_M_again_56 : decode (xt_code m_M_again) 56 = .ok (.iload 4, 2) := by decide +kernel
theorem d_M_again_58 : decode (xt_code m_M_again) 58 = .ok (.iaload, 1) := by decide +kernel
theorem d_M_again_59 : decode (xt_code m_M_again) 59 = .ok (.iconst 4, 1) := by decide +kernel
theorem d_M_again_60 : decode (xt_code m_M_again) 60 = .ok (.if_icmp .eq 17, 3) := by decide +kernel
theorem d_M_again_63 : decode (xt_code m_M_again) 63 = .ok (.aload_n 0, 1) := by decide +kernel
theorem d_M_again_64 : decode (xt_code m_M_again) 64 = .ok (.getfield 42, 3) := by decide +kernel
theorem d_M_again_67 : decode (xt_code m_M_again) 67 = .ok (.iload 4, 2) := by decide +kernel
theorem d_M_again_69 : decode (xt_code m_M_again) 69 = .ok (.iaload, 1) := by decide +kernel
theorem d_M_again_70 : decode (xt_code m_M_again) 70 = .ok (.iconst 5, 1) := by decide +kernel
theorem d_M_again_71 : decode (xt_code m_M_again) 71 = .ok (.if_icmp .eq 6, 3) := by decide +kernel
theorem d_M_again_74 : decode (xt_code m_M_again) 74 = .ok (.goto 30, 3) := by decide +kernel
theorem d_M_again_77 : decode (xt_code m_M_again) 77 = .ok (.aload_n 0, 1) := by decide +kernel
theorem d_M_again_78 : decode (xt_code m_M_again) 78 = .ok (.getfield 42, 3) := by decide +kernel
theorem d_M_again_81 : decode (xt_code m_M_again) 81 = .ok (.iload 4, 2) := by decide +kernel
theorem d_M_again_83 : decode (xt_code m_M_again) 83 = .ok (.iconst 0, 1) := by decide +kernel
theorem d_M_again_84 : decode (xt_code m_M_again) 84 = .ok (.iastore, 1) := by decide +kernel
theorem d_M_again_85 : decode (xt_code m_M_again) 85 = .ok (.aload_n 0, 1) := by decide +kernel
theorem d_M_again_86 : decode (xt_code m_M_again) 86 = .ok (.getfield 51, 3) := by decide +kernel
theorem d_M_again_89 : decode (xt_code m_M_again) 89 = .ok (.iload 4, 2) := by decide +kernel
theorem d_M_again_91 : decode (xt_code m_M_again) 91 = .ok (.iconst 0, 1) := by decide +kernel
theorem d_M_again_92 : decode (xt_code m_M_again) 92 = .ok (.iastore, 1) := by decide +kernel
theorem d_M_again_93 : decode (xt_code m_M_again) 93 = .ok (.aload_n 0, 1) := by decide +kernel
theorem d_M_again_94 : decode (xt_code m_M_again) 94 = .ok (.getfield 57, 3) := by decide +kernel
theorem d_M_again_97 : decode (xt_code m_M_again) 97 = .ok (.iload 4, 2) := by decide +kernel
theorem d_M_again_99 : decode (xt_code m_M_again) 99 = .ok (.iconst 0, 1) := by decide +kernel
theorem d_M_again_100 : decode (xt_code m_M_again) 100 = .ok (.iastore, 1) := by decide +kernel
theorem d_M_again_101 : decode (xt_code m_M_again) 101 = .ok (.iinc 2 1, 3) := by decide +kernel
theorem d_M_again_104 : decode (xt_code m_M_again) 104 = .ok (.iinc 3 1, 3) := by decide +kernel
theorem d_M_again_107 : decode (xt_code m_M_again) 107 = .ok (.goto (-71), 3) := by decide +kernel
theorem d_M_again_110 : decode (xt_code m_M_again) 110 = .ok (.aload_n 0, 1) := by decide +kernel
theorem d_M_again_111 : decode (xt_code m_M_again) 111 = .ok (.invokevirtual 114, 3) := by decide +kernel
theorem d_M_again_114 : decode (xt_code m_M_again) 114 = .ok (.iload_n 2, 1) := by decide +kernel
theorem d_M_again_115 : decode (xt_code m_M_again) 115 = .ok (.ireturn, 1) := by decide +kernel
theorem d_M_state_0 : decode (xt_code m_M_state) 0 = .ok (.aload_n 0, 1) := by decide +kernel
theorem d_M_state_1 : decode (xt_code m_M_state) 1 = .ok (.iconst 0, 1) := by decide +kernel
theorem d_M_state_2 : decode (xt_code m_M_state) 2 = .ok (.putfield 75, 3) := by decide +kernel
theorem d_M_state_5 : decode (xt_code m_M_state) 5 = .ok (.aload_n 0, 1) := by decide +kernel
theorem d_M_state_6 : decode (xt_code m_M_state) 6 = .ok (.iload_n 1, 1) := by decide +kernel
theorem d_M_state_7 : decode (xt_code m_M_state) 7 = .ok (.iload_n 2, 1) := by decide +kernel
theorem d_M_state_8 : decode (xt_code m_M_state) 8 = .ok (.invokevirtual 120, 3) := by decide +kernel
theorem d_M_state_11 : decode (xt_code m_M_state) 11 = .ok (.ifCond .eq 17, 3) := by decide +kernel
theorem d_M_state_14 : decode (xt_code m_M_state) 14 = .ok (.aload_n 0, 1) := by decide +kernel
theorem d_M_state_15 : decode (xt_code m_M_state) 15 = .ok (.getfield 42, 3) := by decide +kernel
theorem d_M_state_18 : decode (xt_code m_M_state) 18 = .ok (.bipush 12, 2) := by decide +kernel
theorem d_M_state_20 : decode (xt_code m_M_state) 20 = .ok (.iload_n 1, 1) := by decide +kernel
theorem d_M_state_21 : decode (xt_code m_M_state) 21 = .ok (.imul, 1) := by decide +kernel
theorem d_M_state_22 : decode (xt_code m_M_state) 22 = .ok (.iload_n 2, 1) := by decide +kernel
theorem d_M_state_23 : decode (xt_code m_M_state) 23 = .ok (.iadd, 1) := by decide +kernel
theorem d_M_state_24 : decode (xt_code m_M_state) 24 = .ok (.iaload, 1) := by decide +kernel
theorem d_M_state_25 : decode (xt_code m_M_state) 25 = .ok (.goto 4, 3) := by decide +kernel
theorem d_M_state_28 : decode (xt_code m_M_state) 28 = .ok (.iconst (-1), 1) := by decide +kernel
theorem d_M_state_29 : decode (xt_code m_M_state) 29 = .ok (.ireturn, 1) := by decide +kernel
theorem d_M_about_0 : decode (xt_code m_M_about) 0 = .ok (.aload_n 0, 1) := by decide +kernel
theorem d_M_about_1 : decode (xt_code m_M_about) 1 = .ok (.iconst 0, 1) := by decide +kernel
theorem d_M_about_2 : decode (xt_code m_M_about) 2 = .ok (.putfield 75, 3) := by decide +kernel
theorem d_M_about_5 : decode (xt_code m_M_about) 5 = .ok (.aload_n 0, 1) := by decide +kernel
theorem d_M_about_6 : decode (xt_code m_M_about) 6 = .ok (.iload_n 1, 1) := by decide +kernel
theorem d_M_about_7 : decode (xt_code m_M_about) 7 = .ok (.iload_n 2, 1) := by decide +kernel
theorem d_M_about_8 : decode (xt_code m_M_about) 8 = .ok (.invokevirtual 120, 3) := by decide +kernel
theorem d_M_about_11 : decode (xt_code m_M_about) 11 = .ok (.ifCond .ne 5, 3) := by decide +kernel
theorem d_M_about_14 : decode (xt_code m_M_about) 14 = .ok (.iconst (-1), 1) := by decide +kernel
theorem d_M_about_15 : decode (xt_code m_M_about) 15 = .ok (.ireturn, 1) := by decide +kernel
theorem d_M_about_16 : decode (xt_code m_M_about) 16 = .ok (.bipush 12, 2) := by decide +kernel
theorem d_M_about_18 : decode (xt_code m_M_about) 18 = .ok (.iload_n 1, 1) := by decide +kernel
theorem d_M_about_19 : decode (xt_code m_M_about) 19 = .ok (.imul, 1) := by decide +kernel
theorem d_M_about_20 : decode (xt_code m_M_about) 20 = .ok (.iload_n 2, 1) := by decide +kernel
theorem d_M_about_21 : decode (xt_code m_M_about) 21 = .ok (.iadd, 1) := by decide +kernel
theorem d_M_about_22 : decode (xt_code m_M_about) 22 = .ok (.istore 4, 2) := by decide +kernel
theorem d_M_about_24 : decode (xt_code m_M_about) 24 = .ok (.iconst 0, 1) := by decide +kernel
theorem d_M_about_25 : decode (xt_code m_M_about) 25 = .ok (.istore 5, 2) := by decide +kernel
theorem d_M_about_27 : decode (xt_code m_M_about) 27 = .ok (.iconst 0, 1) := by decide +kernel
theorem d_M_about_28 : decode (xt_code m_M_about) 28 = .ok (.istore 6, 2) := by decide +kernel
theorem d_M_about_30 : decode (xt_code m_M_about) 30 = .ok (.iload 6, 2) := by decide +kernel
theorem d_M_about_32 : decode (xt_code m_M_about) 32 = .ok (.iload_n 2, 1) := by decide +kernel
theorem d_M_about_33 : decode (xt_code m_M_about) 33 = .ok (.if_icmp .ge 45, 3) := by decide +kernel
theorem d_M_about_36 : decode (xt_code m_M_about) 36 = .ok (.iload 5, 2) := by decide +kernel
theorem d_M_about_38 : decode (xt_code m_M_about) 38 = .ok (.aload_n 0, 1) := by decide +kernel
theorem d_M_about_39 : decode (xt_code m_M_about) 39 = .ok (.getfield 23, 3) := by decide +kernel
theorem d_M_about_42 : decode (xt_code m_M_about) 42 = .ok (.iload_n 2, 1) := by decide +kernel
theorem d_M_about_43 : decode (xt_code m_M_about) 43 = .ok (.iaload, 1) := by decide +kernel
theorem d_M_about_44 : decode (xt_code m_M_about) 44 = .ok (.iload 6, 2) := by decide +kernel
theorem d_M_about_46 : decode (xt_code m_M_about) 46 = .ok (.ishr, 1) := by decide +kernel
theorem d_M_about_47 : decode (xt_code m_M_about) 47 = .ok (.iconst 1, 1) := by decide +kernel
theorem d_M_about_48 : decode (xt_code m_M_about) 48 = .ok (.iand, 1) := by decide +kernel
theorem d_M_about_49 : decode (xt_code m_M_about) 49 = .ok (.iconst 1, 1) := by decide +kernel
theorem d_M_about_50 : decode (xt_code m_M_about) 50 = .ok (.if_icmp .ne 18, 3) := by decide +kernel
theorem d_M_about_53 : decode (xt_code m_M_about) 53 = .ok (.aload_n 0, 1) := by decide +kernel
theorem d_M_about_54 : decode (xt_code m_M_about) 54 = .ok (.getfield 60, 3) := by decide +kernel
theorem d_M_about_57 : decode (xt_code m_M_about) 57 = .ok (.bipush 12, 2) := by decide +kernel
theorem d_M_about_59 : decode (xt_code m_M_about) 59 = .ok (.iload_n 1, 1) := by decide +kernel
theorem d_M_about_60 : decode (xt_code m_M_about) 60 = .ok (.imul, 1) := by decide +kernel
theorem d_M_about_61 : decode (xt_code m_M_about) 61 = .ok (.iload 6, 2) := by decide +kernel
theorem d_M_about_63 : decode (xt_code m_M_about) 63 = .ok (.iadd, 1) := by decide +kernel
theorem d_M_about_64 : decode (xt_code m_M_about) 64 = .ok (.iaload, 1) := by decide +kernel
theorem d_M_about_65 : decode (xt_code m_M_about) 65 = .ok (.goto 4, 3) := by decide +kernel
theorem d_M_about_68 : decode (xt_code m_M_about) 68 = .ok (.iconst 0, 1) := by decide +kernel
theorem d_M_about_69 : decode (xt_code m_M_about) 69 = .ok (.ixor, 1) := by decide +kernel
theorem d_M_about_70 : decode (xt_code m_M_about) 70 = .ok (.istore 5, 2) := by decide +kernel
theorem d_M_about_72 : decode (xt_code m_M_about) 72 = .ok (.iinc 6 1, 3) := by decide +kernel
theorem d_M_about_75 : decode (xt_code m_M_about) 75 = .ok (.goto (-45), 3) := by decide +kernel
theorem d_M_about_78 : decode (xt_code m_M_about) 78 = .ok (.iload_n 3, 1) := by decide +kernel
theorem d_M_about_79 : decode (xt_code m_M_about) 79 = .ok (.ifCond .ne 12, 3) := by decide +kernel
theorem d_M_about_82 : decode (xt_code m_M_about) 82 = .ok (.aload_n 0, 1) := by decide +kernel
theorem d_M_about_83 : decode (xt_code m_M_about) 83 = .ok (.iload 4, 2) := by decide +kernel
theorem d_M_about_85 : decode (xt_code m_M_about) 85 = .ok (.invokevirtual 134, 3) := by decide +kernel
theorem d_M_about_88 : decode (xt_code m_M_about) 88 = .ok (.goto 59, 3) := by decide +kernel
theorem d_M_about_91 : decode (xt_code m_M_about) 91 = .ok (.iload_n 3, 1) := by decide +kernel
theorem d_M_about_92 : decode (xt_code m_M_about) 92 = .ok (.iconst 1, 1) := by decide +kernel
theorem d_M_about_93 : decode (xt_code m_M_about) 93 = .ok (.if_icmp .ne 13, 3) := by decide +kernel
theorem d_M_about_96 : decode (xt_code m_M_about) 96 = .ok (.aload_n 0, 1) := by decide +kernel
theorem d_M_about_97 : decode (xt_code m_M_about) 97 = .ok (.getfield 48, 3) := by decide +kernel
theorem d_M_about_100 : decode (xt_code m_M_about) 100 = .ok (.iload 4, 2) := by decide +kernel
theorem d_M_about_102 : decode (xt_code m_M_about) 102 = .ok (.iaload, 1) := by decide +kernel
theorem d_M_about_103 : decode (xt_code m_M_about) 103 = .ok (.goto 44, 3) := by decide +kernel
theorem d_M_about_106 : decode (xt_code m_M_about) 106 = .ok (.iload_n 3, 1) := by decide +kernel
theorem d_M_about_107 : decode (xt_code m_M_about) 107 = .ok (.iconst 2, 1) := by decide +kernel
theorem d_M_about_108 : decode (xt_code m_M_about) 108 = .ok (.if_icmp .ne 13, 3) := by decide +kernel
theorem d_M_about_111 : decode (xt_code m_M_about) 111 = .ok (.aload_n 0, 1) := by decide +kernel
theorem d_M_about_112 : decode (xt_code m_M_about) 112 = .ok (.getfield 54, 3) := by decide +kernel
theorem d_M_about_115 : decode (xt_code m_M_about) 115 = .ok (.iload 4, 2) := by decide +kernel
theorem d_M_about_117 : decode (xt_code m_M_about) 117 = .ok (.iaload, 1) := by decide +kernel
theorem d_M_about_118 : decode (xt_code m_M_about) 118 = .ok (.goto 29, 3) := by decide +kernel
theorem d_M_about_121 : decode (xt_code m_M_about) 121 = .ok (.iload_n 3, 1) := by decide +kernel
theorem d_M_about_122 : decode (xt_code m_M_about) 122 = .ok (.iconst 3, 1) := by decide +kernel
theorem d_M_about_123 : decode (xt_code m_M_about) 123 = .ok (.if_icmp .ne 13, 3) := by decide +kernel
theorem d_M_about_126 : decode (xt_code m_M_about) 126 = .ok (.aload_n 0, 1) := by decide +kernel
theorem d_M_about_127 : decode (xt_code m_M_about) 127 = .ok (.getfield 60, 3) := by decide +kernel
theorem d_M_about_130 : decode (xt_code m_M_about) 130 = .ok (.iload 4, 2) := by decide +kernel
theorem d_M_about_132 : decode (xt_code m_M_about) 132 = .ok (.iaload, 1) := by decide +kernel
theorem d_M_about_133 : decode (xt_code m_M_about) 133 = .ok (.goto 14, 3) := by decide +kernel
theorem d_M_about_136 : decode (xt_code m_M_about) 136 = .ok (.iload_n 3, 1) := by decide +kernel
theorem d_M_about_137 : decode (xt_code m_M_about) 137 = .ok (.iconst 4, 1) := by decide +kernel
theorem d_M_about_138 : decode (xt_code m_M_about) 138 = .ok (.if_icmp .ne 8, 3) := by decide +kernel
theorem d_M_about_141 : decode (xt_code m_M_about) 141 = .ok (.iload 5, 2) := by decide +kernel
theorem d_M_about_143 : decode (xt_code m_M_about) 143 = .ok (.goto 4, 3) := by decide +kernel
theorem d_M_about_146 : decode (xt_code m_M_about) 146 = .ok (.iconst 0, 1) := by decide +kernel
theorem d_M_about_147 : decode (xt_code m_M_about) 147 = .ok (.ireturn, 1) := by decide +kernel
theorem d_M_verdict_0 : decode (xt_code m_M_verdict) 0 = .ok (.aload_n 0, 1) := by decide +kernel
theorem d_M_verdict_1 : decode (xt_code m_M_verdict) 1 = .ok (.iconst 0, 1) := by decide +kernel
theorem d_M_verdict_2 : decode (xt_code m_M_verdict) 2 = .ok (.putfield 75, 3) := by decide +kernel
theorem d_M_verdict_5 : decode (xt_code m_M_verdict) 5 = .ok (.aload_n 0, 1) := by decide +kernel
theorem d_M_verdict_6 : decode (xt_code m_M_verdict) 6 = .ok (.iload_n 1, 1) := by decide +kernel
theorem d_M_verdict_7 : decode (xt_code m_M_verdict) 7 = .ok (.invokevirtual 117, 3) := by decide +kernel
theorem d_M_verdict_10 : decode (xt_code m_M_verdict) 10 = .ok (.ifCond .ne 5, 3) := by decide +kernel
theorem d_M_verdict_13 : decode (xt_code m_M_verdict) 13 = .ok (.iconst (-1), 1) := by decide +kernel
theorem d_M_verdict_14 : decode (xt_code m_M_verdict) 14 = .ok (.ireturn, 1) := by decide +kernel
theorem d_M_verdict_15 : decode (xt_code m_M_verdict) 15 = .ok (.aload_n 0, 1) := by decide +kernel
theorem d_M_verdict_16 : decode (xt_code m_M_verdict) 16 = .ok (.iload_n 1, 1) := by decide +kernel
theorem d_M_verdict_17 : decode (xt_code m_M_verdict) 17 = .ok (.invokevirtual 108, 3) := by decide +kernel
theorem d_M_verdict_20 : decode (xt_code m_M_verdict) 20 = .ok (.ifCond .ne 5, 3) := by decide +kernel
theorem d_M_verdict_23 : decode (xt_code m_M_verdict) 23 = .ok (.iconst 0, 1) := by decide +kernel
theorem d_M_verdict_24 : decode (xt_code m_M_verdict) 24 = .ok (.ireturn, 1) := by decide +kernel
theorem d_M_verdict_25 : decode (xt_code m_M_verdict) 25 = .ok (.iconst 0, 1) := by decide +kernel
theorem d_M_verdict_26 : decode (xt_code m_M_verdict) 26 = .ok (.istore_n 2, 1) := by decide +kernel
theorem d_M_verdict_27 : decode (xt_code m_M_verdict) 27 = .ok (.iconst 0, 1) := by decide +kernel
theorem d_M_verdict_28 : decode (xt_code m_M_verdict) 28 = .ok (.istore_n 3, 1) := by decide +kernel
theorem d_M_verdict_29 : decode (xt_code m_M_verdict) 29 = .ok (.iload_n 3, 1) := by decide +kernel
theorem d_M_verdict_30 : decode (xt_code m_M_verdict) 30 = .ok (.aload_n 0, 1) := by decide +kernel
theorem d_M_verdict_31 : decode (xt_code m_M_verdict) 31 = .ok (.getfield 78, 3) := by decide +kernel
theorem d_M_verdict_34 : decode (xt_code m_M_verdict) 34 = .ok (.if_icmp .ge 34, 3) := by decide +kernel
theorem d_M_verdict_37 : decode (xt_code m_M_verdict) 37 = .ok (.iload_n 2, 1) := by decide +kernel
theorem d_M_verdict_38 : decode (xt_code m_M_verdict) 38 = .ok (.ifCond .ne 18, 3) := by decide +kernel
theorem d_M_verdict_41 : decode (xt_code m_M_verdict) 41 = .ok (.aload_n 0, 1) := by decide +kernel
theorem d_M_verdict_42 : decode (xt_code m_M_verdict) 42 = .ok (.getfield 42, 3) := by decide +kernel
theorem d_M_verdict_45 : decode (xt_code m_M_verdict) 45 = .ok (.bipush 12, 2) := by decide +kernel
theorem d_M_verdict_47 : decode (xt_code m_M_verdict) 47 = .ok (.iload_n 1, 1) := by decide +kernel
theorem d_M_verdict_48 : decode (xt_code m_M_verdict) 48 = .ok (.imul, 1) := by decide +kernel
theorem d_M_verdict_49 : decode (xt_code m_M_verdict) 49 = .ok (.iload_n 3, 1) := by decide +kernel
theorem d_M_verdict_50 : decode (xt_code m_M_verdict) 50 = .ok (.iadd, 1) := by decide +kernel
theorem d_M_verdict_51 : decode (xt_code m_M_verdict) 51 = .ok (.iaload, 1) := by decide +kernel
theorem d_M_verdict_52 : decode (xt_code m_M_verdict) 52 = .ok (.iconst 4, 1) := by decide +kernel
theorem d_M_verdict_53 : decode (xt_code m_M_verdict) 53 = .ok (.if_icmp .ne 7, 3) := by decide +kernel
theorem d_M_verdict_56 : decode (xt_code m_M_verdict) 56 = .ok (.iconst 1, 1) := by decide +kernel
theorem d_M_verdict_57 : decode (xt_code m_M_verdict) 57 = .ok (.goto 4, 3) := by decide +kernel
theorem d_M_verdict_60 : decode (xt_code m_M_verdict) 60 = .ok (.iconst 0, 1) := by decide +kernel
theorem d_M_verdict_61 : decode (xt_code m_M_verdict) 61 = .ok (.istore_n 2, 1) := by decide +kernel
theorem d_M_verdict_62 : decode (xt_code m_M_verdict) 62 = .ok (.iinc 3 1, 3) := by decide +kernel
theorem d_M_verdict_65 : decode (xt_code m_M_verdict) 65 = .ok (.goto (-36), 3) := by decide +kernel
theorem d_M_verdict_68 : decode (xt_code m_M_verdict) 68 = .ok (.aload_n 0, 1) := by decide +kernel
theorem d_M_verdict_69 : decode (xt_code m_M_verdict) 69 = .ok (.getfield 39, 3) := by decide +kernel
theorem d_M_verdict_72 : decode (xt_code m_M_verdict) 72 = .ok (.iload_n 1, 1) := by decide +kernel
theorem d_M_verdict_73 : decode (xt_code m_M_verdict) 73 = .ok (.baload, 1) := by decide +kernel
theorem d_M_verdict_74 : decode (xt_code m_M_verdict) 74 = .ok (.ifCond .eq 7, 3) := by decide +kernel
theorem d_M_verdict_77 : decode (xt_code m_M_verdict) 77 = .ok (.iconst 3, 1) := by decide +kernel
theorem d_M_verdict_78 : decode (xt_code m_M_verdict) 78 = .ok (.goto 12, 3) := by decide +kernel
theorem d_M_verdict_81 : decode (xt_code m_M_verdict) 81 = .ok (.iload_n 2, 1) := by decide +kernel
theorem d_M_verdict_82 : decode (xt_code m_M_verdict) 82 = .ok (.ifCond .eq 7, 3) := by decide +kernel
theorem d_M_verdict_85 : decode (xt_code m_M_verdict) 85 = .ok (.iconst 2, 1) := by decide +kernel
theorem d_M_verdict_86 : decode (xt_code m_M_verdict) 86 = .ok (.goto 4, 3) := by decide +kernel
theorem d_M_verdict_89 : decode (xt_code m_M_verdict) 89 = .ok (.iconst 1, 1) := by decide +kernel
theorem d_M_verdict_90 : decode (xt_code m_M_verdict) 90 = .ok (.ireturn, 1) := by decide +kernel
theorem d_M_has_0 : decode (xt_code m_M_has) 0 = .ok (.aload_n 0, 1) := by decide +kernel
theorem d_M_has_1 : decode (xt_code m_M_has) 1 = .ok (.iconst 0, 1) := by decide +kernel
theorem d_M_has_2 : decode (xt_code m_M_has) 2 = .ok (.putfield 75, 3) := by decide +kernel
theorem d_M_has_5 : decode (xt_code m_M_has) 5 = .ok (.aload_n 0, 1) := by decide +kernel
theorem d_M_has_6 : decode (xt_code m_M_has) 6 = .ok (.iload_n 1, 1) := by decide +kernel
theorem d_M_has_7 : decode (xt_code m_M_has) 7 = .ok (.invokevirtual 124, 3) := by decide +kernel
theorem d_M_has_10 : decode (xt_code m_M_has) 10 = .ok (.ifCond .eq 12, 3) := by decide +kernel
theorem d_M_has_13 : decode (xt_code m_M_has) 13 = .ok (.aload_n 0, 1) := by decide +kernel
theorem d_M_has_14 : decode (xt_code m_M_has) 14 = .ok (.getfield 72, 3) := by decide +kernel
theorem d_M_has_17 : decode (xt_code m_M_has) 17 = .ok (.iload_n 1, 1) := by decide +kernel
theorem d_M_has_18 : decode (xt_code m_M_has) 18 = .ok (.iaload, 1) := by decide +kernel
theorem d_M_has_19 : decode (xt_code m_M_has) 19 = .ok (.goto 4, 3) := by decide +kernel
theorem d_M_has_22 : decode (xt_code m_M_has) 22 = .ok (.iconst (-1), 1) := by decide +kernel
theorem d_M_has_23 : decode (xt_code m_M_has) 23 = .ok (.ireturn, 1) := by decide +kernel
theorem d_L_law_0 : decode (xt_code m_L_law) 0 = .ok (.new 7, 3) := by decide +kernel
theorem d_L_law_3 : decode (xt_code m_L_law) 3 = .ok (.dup, 1) := by decide +kernel
theorem d_L_law_4 : decode (xt_code m_L_law) 4 = .ok (.invokespecial 9, 3) := by decide +kernel
theorem d_L_law_7 : decode (xt_code m_L_law) 7 = .ok (.astore_n 1, 1) := by decide +kernel
end
section
/-! decode rows, by program -/
theorem d_L_law_8 : decode (xt_code m_L_law) 8 = .ok (.new 10, 3) := by decide +kernel
theorem d_L_law_11 : decode (xt_code m_L_law) 11 = .ok (.dup, 1) := by decide +kernel
theorem d_L_law_12 : decode (xt_code m_L_law) 12 = .ok (.invokespecial 12, 3) := by decide +kernel
theorem d_L_law_15 : decode (xt_code m_L_law) 15 = .ok (.astore_n 2, 1) := by decide +kernel
theorem d_L_law_16 : decode (xt_code m_L_law) 16 = .ok (.iconst 0, 1) := by decide +kernel
theorem d_L_law_17 : decode (xt_code m_L_law) 17 = .ok (.istore_n 3, 1) := by decide +kernel
theorem d_L_law_18 : decode (xt_code m_L_law) 18 = .ok (.iload_n 3, 1) := by decide +kernel
theorem d_L_law_19 : decode (xt_code m_L_law) 19 = .ok (.aload_n 0, 1) := by decide +kernel
theorem d_L_law_20 : decode (xt_code m_L_law) 20 = .ok (.arraylength, 1) := by decide +kernel
theorem d_L_law_21 : decode (xt_code m_L_law) 21 = .ok (.bipush 6, 2) := by decide +kernel
theorem d_L_law_23 : decode (xt_code m_L_law) 23 = .ok (.isub, 1) := by decide +kernel
theorem d_L_law_24 : decode (xt_code m_L_law) 24 = .ok (.if_icmp .gt 640, 3) := by decide +kernel
theorem d_L_law_27 : decode (xt_code m_L_law) 27 = .ok (.aload_n 0, 1) := by decide +kernel
theorem d_L_law_28 : decode (xt_code m_L_law) 28 = .ok (.iload_n 3, 1) := by decide +kernel
theorem d_L_law_29 : decode (xt_code m_L_law) 29 = .ok (.iaload, 1) := by decide +kernel
theorem d_L_law_30 : decode (xt_code m_L_law) 30 = .ok (.bipush 15, 2) := by decide +kernel
theorem d_L_law_32 : decode (xt_code m_L_law) 32 = .ok (.iand, 1) := by decide +kernel
theorem d_L_law_33 : decode (xt_code m_L_law) 33 = .ok (.tableswitch 625 0 15 #[79, 174, 207, 230, 253, 286, 329, 352, 375, 434, 457, 480, 503, 536, 579, 602], 79) := by decide +kernel
theorem d_L_law_112 : decode (xt_code m_L_law) 112 = .ok (.aload_n 1, 1) := by decide +kernel
theorem d_L_law_113 : decode (xt_code m_L_law) 113 = .ok (.aload_n 0, 1) := by decide +kernel
theorem d_L_law_114 : decode (xt_code m_L_law) 114 = .ok (.iload_n 3, 1) := by decide +kernel
theorem d_L_law_115 : decode (xt_code m_L_law) 115 = .ok (.iconst 1, 1) := by decide +kernel
theorem d_L_law_116 : decode (xt_code m_L_law) 116 = .ok (.iadd, 1) := by decide +kernel
theorem d_L_law_117 : decode (xt_code m_L_law) 117 = .ok (.iaload, 1) := by decide +kernel
theorem d_L_law_118 : decode (xt_code m_L_law) 118 = .ok (.aload_n 0, 1) := by decide +kernel
theorem d_L_law_119 : decode (xt_code m_L_law) 119 = .ok (.iload_n 3, 1) := by decide +kernel
theorem d_L_law_120 : decode (xt_code m_L_law) 120 = .ok (.iconst 2, 1) := by decide +kernel
theorem d_L_law_121 : decode (xt_code m_L_law) 121 = .ok (.iadd, 1) := by decide +kernel
theorem d_L_law_122 : decode (xt_code m_L_law) 122 = .ok (.iaload, 1) := by decide +kernel
theorem d_L_law_123 : decode (xt_code m_L_law) 123 = .ok (.aload_n 0, 1) := by decide +kernel
theorem d_L_law_124 : decode (xt_code m_L_law) 124 = .ok (.iload_n 3, 1) := by decide +kernel
theorem d_L_law_125 : decode (xt_code m_L_law) 125 = .ok (.iconst 3, 1) := by decide +kernel
theorem d_L_law_126 : decode (xt_code m_L_law) 126 = .ok (.iadd, 1) := by decide +kernel
theorem d_L_law_127 : decode (xt_code m_L_law) 127 = .ok (.iaload, 1) := by decide +kernel
theorem d_L_law_128 : decode (xt_code m_L_law) 128 = .ok (.aload_n 0, 1) := by decide +kernel
theorem d_L_law_129 : decode (xt_code m_L_law) 129 = .ok (.iload_n 3, 1) := by decide +kernel
theorem d_L_law_130 : decode (xt_code m_L_law) 130 = .ok (.iconst 4, 1) := by decide +kernel
theorem d_L_law_131 : decode (xt_code m_L_law) 131 = .ok (.iadd, 1) := by decide +kernel
theorem d_L_law_132 : decode (xt_code m_L_law) 132 = .ok (.iaload, 1) := by decide +kernel
theorem d_L_law_133 : decode (xt_code m_L_law) 133 = .ok (.ifCond .eq 7, 3) := by decide +kernel
theorem d_L_law_136 : decode (xt_code m_L_law) 136 = .ok (.iconst 1, 1) := by decide +kernel
theorem d_L_law_137 : decode (xt_code m_L_law) 137 = .ok (.goto 4, 3) := by decide +kernel
theorem d_L_law_140 : decode (xt_code m_L_law) 140 = .ok (.iconst 0, 1) := by decide +kernel
theorem d_L_law_141 : decode (xt_code m_L_law) 141 = .ok (.aload_n 0, 1) := by decide +kernel
theorem d_L_law_142 : decode (xt_code m_L_law) 142 = .ok (.iload_n 3, 1) := by decide +kernel
theorem d_L_law_143 : decode (xt_code m_L_law) 143 = .ok (.iconst 5, 1) := by decide +kernel
theorem d_L_law_144 : decode (xt_code m_L_law) 144 = .ok (.iadd, 1) := by decide +kernel
theorem d_L_law_145 : decode (xt_code m_L_law) 145 = .ok (.iaload, 1) := by decide +kernel
theorem d_L_law_146 : decode (xt_code m_L_law) 146 = .ok (.ifCond .eq 7, 3) := by decide +kernel
theorem d_L_law_149 : decode (xt_code m_L_law) 149 = .ok (.iconst 1, 1) := by decide +kernel
theorem d_L_law_150 : decode (xt_code m_L_law) 150 = .ok (.goto 4, 3) := by decide +kernel
theorem d_L_law_153 : decode (xt_code m_L_law) 153 = .ok (.iconst 0, 1) := by decide +kernel
theorem d_L_law_154 : decode (xt_code m_L_law) 154 = .ok (.invokevirtual 13, 3) := by decide +kernel
theorem d_L_law_157 : decode (xt_code m_L_law) 157 = .ok (.aload_n 2, 1) := by decide +kernel
theorem d_L_law_158 : decode (xt_code m_L_law) 158 = .ok (.aload_n 0, 1) := by decide +kernel
theorem d_L_law_159 : decode (xt_code m_L_law) 159 = .ok (.iload_n 3, 1) := by decide +kernel
theorem d_L_law_160 : decode (xt_code m_L_law) 160 = .ok (.iconst 1, 1) := by decide +kernel
theorem d_L_law_161 : decode (xt_code m_L_law) 161 = .ok (.iadd, 1) := by decide +kernel
theorem d_L_law_162 : decode (xt_code m_L_law) 162 = .ok (.iaload, 1) := by decide +kernel
theorem d_L_law_163 : decode (xt_code m_L_law) 163 = .ok (.aload_n 0, 1) := by decide +kernel
theorem d_L_law_164 : decode (xt_code m_L_law) 164 = .ok (.iload_n 3, 1) := by decide +kernel
theorem d_L_law_165 : decode (xt_code m_L_law) 165 = .ok (.iconst 2, 1) := by decide +kernel
theorem d_L_law_166 : decode (xt_code m_L_law) 166 = .ok (.iadd, 1) := by decide +kernel
theorem d_L_law_167 : decode (xt_code m_L_law) 167 = .ok (.iaload, 1) := by decide +kernel
theorem d_L_law_168 : decode (xt_code m_L_law) 168 = .ok (.aload_n 0, 1) := by decide +kernel
theorem d_L_law_169 : decode (xt_code m_L_law) 169 = .ok (.iload_n 3, 1) := by decide +kernel
theorem d_L_law_170 : decode (xt_code m_L_law) 170 = .ok (.iconst 3, 1) := by decide +kernel
theorem d_L_law_171 : decode (xt_code m_L_law) 171 = .ok (.iadd, 1) := by decide +kernel
theorem d_L_law_172 : decode (xt_code m_L_law) 172 = .ok (.iaload, 1) := by decide +kernel
theorem d_L_law_173 : decode (xt_code m_L_law) 173 = .ok (.aload_n 0, 1) := by decide +kernel
theorem d_L_law_174 : decode (xt_code m_L_law) 174 = .ok (.iload_n 3, 1) := by decide +kernel
theorem d_L_law_175 : decode (xt_code m_L_law) 175 = .ok (.iconst 4, 1) := by decide +kernel
theorem d_L_law_176 : decode (xt_code m_L_law) 176 = .ok (.iadd, 1) := by decide +kernel
theorem d_L_law_177 : decode (xt_code m_L_law) 177 = .ok (.iaload, 1) := by decide +kernel
theorem d_L_law_178 : decode (xt_code m_L_law) 178 = .ok (.ifCond .eq 7, 3) := by decide +kernel
theorem d_L_law_181 : decode (xt_code m_L_law) 181 = .ok (.iconst 1, 1) := by decide +kernel
theorem d_L_law_182 : decode (xt_code m_L_law) 182 = .ok (.goto 4, 3) := by decide +kernel
theorem d_L_law_185 : decode (xt_code m_L_law) 185 = .ok (.iconst 0, 1) := by decide +kernel
theorem d_L_law_186 : decode (xt_code m_L_law) 186 = .ok (.aload_n 0, 1) := by decide +kernel
theorem d_L_law_187 : decode (xt_code m_L_law) 187 = .ok (.iload_n 3, 1) := by decide +kernel
theorem d_L_law_188 : decode (xt_code m_L_law) 188 = .ok (.iconst 5, 1) := by decide +kernel
theorem d_L_law_189 : decode (xt_code m_L_law) 189 = .ok (.iadd, 1) := by decide +kernel
theorem d_L_law_190 : decode (xt_code m_L_law) 190 = .ok (.iaload, 1) := by decide +kernel
theorem d_L_law_191 : decode (xt_code m_L_law) 191 = .ok (.ifCond .eq 7, 3) := by decide +kernel
theorem d_L_law_194 : decode (xt_code m_L_law) 194 = .ok (.iconst 1, 1) := by decide +kernel
theorem d_L_law_195 : decode (xt_code m_L_law) 195 = .ok (.goto 4, 3) := by decide +kernel
theorem d_L_law_198 : decode (xt_code m_L_law) 198 = .ok (.iconst 0, 1) := by decide +kernel
theorem d_L_law_199 : decode (xt_code m_L_law) 199 = .ok (.invokevirtual 17, 3) := by decide +kernel
theorem d_L_law_202 : decode (xt_code m_L_law) 202 = .ok (.if_icmp .eq 456, 3) := by decide +kernel
theorem d_L_law_205 : decode (xt_code m_L_law) 205 = .ok (.iconst 0, 1) := by decide +kernel
theorem d_L_law_206 : decode (xt_code m_L_law) 206 = .ok (.ireturn, 1) := by decide +kernel
theorem d_L_law_207 : decode (xt_code m_L_law) 207 = .ok (.aload_n 1, 1) := by decide +kernel
theorem d_L_law_208 : decode (xt_code m_L_law) 208 = .ok (.aload_n 0, 1) := by decide +kernel
theorem d_L_law_209 : decode (xt_code m_L_law) 209 = .ok (.iload_n 3, 1) := by decide +kernel
theorem d_L_law_210 : decode (xt_code m_L_law) 210 = .ok (.iconst 1, 1) := by decide +kernel
theorem d_L_law_211 : decode (xt_code m_L_law) 211 = .ok (.iadd, 1) := by decide +kernel
theorem d_L_law_212 : decode (xt_code m_L_law) 212 = .ok (.iaload, 1) := by decide +kernel
theorem d_L_law_213 : decode (xt_code m_L_law) 213 = .ok (.aload_n 0, 1) := by decide +kernel
theorem d_L_law_214 : decode (xt_code m_L_law) 214 = .ok (.iload_n 3, 1) := by decide +kernel
theorem d_L_law_215 : decode (xt_code m_L_law) 215 = .ok (.iconst 2, 1) := by decide +kernel
theorem d_L_law_216 : decode (xt_code m_L_law) 216 = .ok (.iadd, 1) := by decide +kernel
theorem d_L_law_217 : decode (xt_code m_L_law) 217 = .ok (.iaload, 1) := by decide +kernel
theorem d_L_law_218 : decode (xt_code m_L_law) 218 = .ok (.invokevirtual 18, 3) := by decide +kernel
theorem d_L_law_221 : decode (xt_code m_L_law) 221 = .ok (.aload_n 2, 1) := by decide +kernel
theorem d_L_law_222 : decode (xt_code m_L_law) 222 = .ok (.aload_n 0, 1) := by decide +kernel
theorem d_L_law_223 : decode (xt_code m_L_law) 223 = .ok (.iload_n 3, 1) := by decide +kernel
theorem d_L_law_224 : decode (xt_code m_L_law) 224 = .ok (.iconst 1, 1) := by decide +kernel
theorem d_L_law_225 : decode (xt_code m_L_law) 225 = .ok (.iadd, 1) := by decide +kernel
theorem d_L_law_226 : decode (xt_code m_L_law) 226 = .ok (.iaload, 1) := by decide +kernel
theorem d_L_law_227 : decode (xt_code m_L_law) 227 = .ok (.aload_n 0, 1) := by decide +kernel
theorem d_L_law_228 : decode (xt_code m_L_law) 228 = .ok (.iload_n 3, 1) := by decide +kernel
theorem d_L_law_229 : decode (xt_code m_L_law) 229 = .ok (.iconst 2, 1) := by decide +kernel
theorem d_L_law_230 : decode (xt_code m_L_law) 230 = .ok (.iadd, 1) := by decide +kernel
theorem d_L_law_231 : decode (xt_code m_L_law) 231 = .ok (.iaload, 1) := by decide +kernel
theorem d_L_law_232 : decode (xt_code m_L_law) 232 = .ok (.invokevirtual 22, 3) := by decide +kernel
theorem d_L_law_235 : decode (xt_code m_L_law) 235 = .ok (.if_icmp .eq 423, 3) := by decide +kernel
theorem d_L_law_238 : decode (xt_code m_L_law) 238 = .ok (.iconst 0, 1) := by decide +kernel
theorem d_L_law_239 : decode (xt_code m_L_law) 239 = .ok (.ireturn, 1) := by decide +kernel
theorem d_L_law_240 : decode (xt_code m_L_law) 240 = .ok (.aload_n 1, 1) := by decide +kernel
theorem d_L_law_241 : decode (xt_code m_L_law) 241 = .ok (.aload_n 0, 1) := by decide +kernel
theorem d_L_law_242 : decode (xt_code m_L_law) 242 = .ok (.iload_n 3, 1) := by decide +kernel
theorem d_L_law_243 : decode (xt_code m_L_law) 243 = .ok (.iconst 1, 1) := by decide +kernel
theorem d_L_law_244 : decode (xt_code m_L_law) 244 = .ok (.iadd, 1) := by decide +kernel
theorem d_L_law_245 : decode (xt_code m_L_law) 245 = .ok (.iaload, 1) := by decide +kernel
theorem d_L_law_246 : decode (xt_code m_L_law) 246 = .ok (.invokevirtual 23, 3) := by decide +kernel
theorem d_L_law_249 : decode (xt_code m_L_law) 249 = .ok (.aload_n 2, 1) := by decide +kernel
theorem d_L_law_250 : decode (xt_code m_L_law) 250 = .ok (.aload_n 0, 1) := by decide +kernel
theorem d_L_law_251 : decode (xt_code m_L_law) 251 = .ok (.iload_n 3, 1) := by decide +kernel
theorem d_L_law_252 : decode (xt_code m_L_law) 252 = .ok (.iconst 1, 1) := by decide +kernel
theorem d_L_law_253 : decode (xt_code m_L_law) 253 = .ok (.iadd, 1) := by decide +kernel
theorem d_L_law_254 : decode (xt_code m_L_law) 254 = .ok (.iaload, 1) := by decide +kernel
theorem d_L_law_255 : decode (xt_code m_L_law) 255 = .ok (.invokevirtual 27, 3) := by decide +kernel
theorem d_L_law_258 : decode (xt_code m_L_law) 258 = .ok (.if_icmp .eq 400, 3) := by decide +kernel
theorem d_L_law_261 : decode (xt_code m_L_law) 261 = .ok (.iconst 0, 1) := by decide +kernel
theorem d_L_law_262 : decode (xt_code m_L_law) 262 = .ok (.ireturn, 1) := by decide +kernel
theorem d_L_law_263 : decode (xt_code m_L_law) 263 = .ok (.aload_n 1, 1) := by decide +kernel
theorem d_L_law_264 : decode (xt_code m_L_law) 264 = .ok (.aload_n 0, 1) := by decide +kernel
theorem d_L_law_265 : decode (xt_code m_L_law) 265 = .ok (.iload_n 3, 1) := by decide +kernel
theorem d_L_law_266 : decode (xt_code m_L_law) 266 = .ok (.iconst 1, 1) := by decide +kernel
theorem d_L_law_267 : decode (xt_code m_L_law) 267 = .ok (.iadd, 1) := by decide +kernel
theorem d_L_law_268 : decode (xt_code m_L_law) 268 = .ok (.iaload, 1) := by decide +kernel
theorem d_L_law_269 : decode (xt_code m_L_law) 269 = .ok (.invokevirtual 28, 3) := by decide +kernel
theorem d_L_law_272 : decode (xt_code m_L_law) 272 = .ok (.aload_n 2, 1) := by decide +kernel
theorem d_L_law_273 : decode (xt_code m_L_law) 273 = .ok (.aload_n 0, 1) := by decide +kernel
theorem d_L_law_274 : decode (xt_code m_L_law) 274 = .ok (.iload_n 3, 1) := by decide +kernel
theorem d_L_law_275 : decode (xt_code m_L_law) 275 = .ok (.iconst 1, 1) := by decide +kernel
theorem d_L_law_276 : decode (xt_code m_L_law) 276 = .ok (.iadd, 1) := by decide +kernel
theorem d_L_law_277 : decode (xt_code m_L_law) 277 = .ok (.iaload, 1) := by decide +kernel
theorem d_L_law_278 : decode (xt_code m_L_law) 278 = .ok (.invokevirtual 32, 3) := by decide +kernel
theorem d_L_law_281 : decode (xt_code m_L_law) 281 = .ok (.if_icmp .eq 377, 3) := by decide +kernel
theorem d_L_law_284 : decode (xt_code m_L_law) 284 = .ok (.iconst 0, 1) := by decide +kernel
theorem d_L_law_285 : decode (xt_code m_L_law) 285 = .ok (.ireturn, 1) := by decide +kernel
theorem d_L_law_286 : decode (xt_code m_L_law) 286 = .ok (.aload_n 1, 1) := by decide +kernel
theorem d_L_law_287 : decode (xt_code m_L_law) 287 = .ok (.aload_n 0, 1) := by decide +kernel
theorem d_L_law_288 : decode (xt_code m_L_law) 288 = .ok (.iload_n 3, 1) := by decide +kernel
theorem d_L_law_289 : decode (xt_code m_L_law) 289 = .ok (.iconst 1, 1) := by decide +kernel
theorem d_L_law_290 : decode (xt_code m_L_law) 290 = .ok (.iadd, 1) := by decide +kernel
theorem d_L_law_291 : decode (xt_code m_L_law) 291 = .ok (.iaload, 1) := by decide +kernel
theorem d_L_law_292 : decode (xt_code m_L_law) 292 = .ok (.aload_n 0, 1) := by decide +kernel
theorem d_L_law_293 : decode (xt_code m_L_law) 293 = .ok (.iload_n 3, 1) := by decide +kernel
theorem d_L_law_294 : decode (xt_code m_L_law) 294 = .ok (.iconst 2, 1) := by decide +kernel
theorem d_L_law_295 : decode (xt_code m_L_law) 295 = .ok (.iadd, 1) := by decide +kernel
theorem d_L_law_296 : decode (xt_code m_L_law) 296 = .ok (.iaload, 1) := by decide +kernel
theorem d_L_law_297 : decode (xt_code m_L_law) 297 = .ok (.invokevirtual 33, 3) := by decide +kernel
theorem d_L_law_300 : decode (xt_code m_L_law) 300 = .ok (.aload_n 2, 1) := by decide +kernel
theorem d_L_law_301 : decode (xt_code m_L_law) 301 = .ok (.aload_n 0, 1) := by decide +kernel
theorem d_L_law_302 : decode (xt_code m_L_law) 302 = .ok (.iload_n 3, 1) := by decide +kernel
theorem d_L_law_303 : decode (xt_code m_L_law) 303 = .ok (.iconst 1, 1) := by decide +kernel
theorem d_L_law_304 : decode (xt_code m_L_law) 304 = .ok (.iadd, 1) := by decide +kernel
theorem d_L_law_305 : decode (xt_code m_L_law) 305 = .ok (.iaload, 1) := by decide +kernel
theorem d_L_law_306 : decode (xt_code m_L_law) 306 = .ok (.aload_n 0, 1) := by decide +kernel
theorem d_L_law_307 : decode (xt_code m_L_law) 307 = .ok (.iload_n 3, 1) := by decide +kernel
theorem d_L_law_308 : decode (xt_code m_L_law) 308 = .ok (.iconst 2, 1) := by decide +kernel
theorem d_L_law_309 : decode (xt_code m_L_law) 309 = .ok (.iadd, 1) := by decide +kernel
theorem d_L_law_310 : decode (xt_code m_L_law) 310 = .ok (.iaload, 1) := by decide +kernel
theorem d_L_law_311 : decode (xt_code m_L_law) 311 = .ok (.invokevirtual 37, 3) := by decide +kernel
theorem d_L_law_314 : decode (xt_code m_L_law) 314 = .ok (.if_icmp .eq 344, 3) := by decide +kernel
theorem d_L_law_317 : decode (xt_code m_L_law) 317 = .ok (.iconst 0, 1) := by decide +kernel
theorem d_L_law_318 : decode (xt_code m_L_law) 318 = .ok (.ireturn, 1) := by decide +kernel
theorem d_L_law_319 : decode (xt_code m_L_law) 319 = .ok (.aload_n 1, 1) := by decide +kernel
theorem d_L_law_320 : decode (xt_code m_L_law) 320 = .ok (.aload_n 0, 1) := by decide +kernel
theorem d_L_law_321 : decode (xt_code m_L_law) 321 = .ok (.iload_n 3, 1) := by decide +kernel
theorem d_L_law_322 : decode (xt_code m_L_law) 322 = .ok (.iconst 1, 1) := by decide +kernel
theorem d_L_law_323 : decode (xt_code m_L_law) 323 = .ok (.iadd, 1) := by decide +kernel
theorem d_L_law_324 : decode (xt_code m_L_law) 324 = .ok (.iaload, 1) := by decide +kernel
theorem d_L_law_325 : decode (xt_code m_L_law) 325 = .ok (.aload_n 0, 1) := by decide +kernel
theorem d_L_law_326 : decode (xt_code m_L_law) 326 = .ok (.iload_n 3, 1) := by decide +kernel
theorem d_L_law_327 : decode (xt_code m_L_law) 327 = .ok (.iconst 2, 1) := by decide +kernel
theorem d_L_law_328 : decode (xt_code m_L_law) 328 = .ok (.iadd, 1) := by decide +kernel
theorem d_L_law_329 : decode (xt_code m_L_law) 329 = .ok (.iaload, 1) := by decide +kernel
theorem d_L_law_330 : decode (xt_code m_L_law) 330 = .ok (.aload_n 0, 1) := by decide +kernel
theorem d_L_law_331 : decode (xt_code m_L_law) 331 = .ok (.iload_n 3, 1) := by decide +kernel
theorem d_L_law_332 : decode (xt_code m_L_law) 332 = .ok (.iconst 3, 1) := by decide +kernel
theorem d_L_law_333 : decode (xt_code m_L_law) 333 = .ok (.iadd, 1) := by decide +kernel
theorem d_L_law_334 : decode (xt_code m_L_law) 334 = .ok (.iaload, 1) := by decide +kernel
theorem d_L_law_335 : decode (xt_code m_L_law) 335 = .ok (.invokevirtual 38, 3) := by decide +kernel
theorem d_L_law_338 : decode (xt_code m_L_law) 338 = .ok (.aload_n 2, 1) := by decide +kernel
theorem d_L_law_339 : decode (xt_code m_L_law) 339 = .ok (.aload_n 0, 1) := by decide +kernel
theorem d_L_law_340 : decode (xt_code m_L_law) 340 = .ok (.iload_n 3, 1) := by decide +kernel
theorem d_L_law_341 : decode (xt_code m_L_law) 341 = .ok (.iconst 1, 1) := by decide +kernel
theorem d_L_law_342 : decode (xt_code m_L_law) 342 = .ok (.iadd, 1) := by decide +kernel
theorem d_L_law_343 : decode (xt_code m_L_law) 343 = .ok (.iaload, 1) := by decide +kernel
theorem d_L_law_344 : decode (xt_code m_L_law) 344 = .ok (.aload_n 0, 1) := by decide +kernel
theorem d_L_law_345 : decode (xt_code m_L_law) 345 = .ok (.iload_n 3, 1) := by decide +kernel
theorem d_L_law_346 : decode (xt_code m_L_law) 346 = .ok (.iconst 2, 1) := by decide +kernel
theorem d_L_law_347 : decode (xt_code m_L_law) 347 = .ok (.iadd, 1) := by decide +kernel
theorem d_L_law_348 : decode (xt_code m_L_law) 348 = .ok (.iaload, 1) := by decide +kernel
theorem d_L_law_349 : decode (xt_code m_L_law) 349 = .ok (.aload_n 0, 1) := by decide +kernel
theorem d_L_law_350 : decode (xt_code m_L_law) 350 = .ok (.iload_n 3, 1) := by decide +kernel
theorem d_L_law_351 : decode (xt_code m_L_law) 351 = .ok (.iconst 3, 1) := by decide +kernel
theorem d_L_law_352 : decode (xt_code m_L_law) 352 = .ok (.iadd, 1) := by decide +kernel
theorem d_L_law_353 : decode (xt_code m_L_law) 353 = .ok (.iaload, 1) := by decide +kernel
theorem d_L_law_354 : decode (xt_code m_L_law) 354 = .ok (.invokevirtual 42, 3) := by decide +kernel
theorem d_L_law_357 : decode (xt_code m_L_law) 357 = .ok (.if_icmp .eq 301, 3) := by decide +kernel
theorem d_L_law_360 : decode (xt_code m_L_law) 360 = .ok (.iconst 0, 1) := by decide +kernel
theorem d_L_law_361 : decode (xt_code m_L_law) 361 = .ok (.ireturn, 1) := by decide +kernel
theorem d_L_law_362 : decode (xt_code m_L_law) 362 = .ok (.aload_n 1, 1) := by decide +kernel
theorem d_L_law_363 : decode (xt_code m_L_law) 363 = .ok (.aload_n 0, 1) := by decide +kernel
theorem d_L_law_364 : decode (xt_code m_L_law) 364 = .ok (.iload_n 3, 1) := by decide +kernel
theorem d_L_law_365 : decode (xt_code m_L_law) 365 = .ok (.iconst 1, 1) := by decide +kernel
theorem d_L_law_366 : decode (xt_code m_L_law) 366 = .ok (.iadd, 1) := by decide +kernel
theorem d_L_law_367 : decode (xt_code m_L_law) 367 = .ok (.iaload, 1) := by decide +kernel
theorem d_L_law_368 : decode (xt_code m_L_law) 368 = .ok (.invokevirtual 43, 3) := by decide +kernel
theorem d_L_law_371 : decode (xt_code m_L_law) 371 = .ok (.aload_n 2, 1) := by decide +kernel
theorem d_L_law_372 : decode (xt_code m_L_law) 372 = .ok (.aload_n 0, 1) := by decide +kernel
theorem d_L_law_373 : decode (xt_code m_L_law) 373 = .ok (.iload_n 3, 1) := by decide +kernel
theorem d_L_law_374 : decode (xt_code m_L_law) 374 = .ok (.iconst 1, 1) := by decide +kernel
theorem d_L_law_375 : decode (xt_code m_L_law) 375 = .ok (.iadd, 1) := by decide +kernel
theorem d_L_law_376 : decode (xt_code m_L_law) 376 = .ok (.iaload, 1) := by decide +kernel
theorem d_L_law_377 : decode (xt_code m_L_law) 377 = .ok (.invokevirtual 46, 3) := by decide +kernel
theorem d_L_law_380 : decode (xt_code m_L_law) 380 = .ok (.if_icmp .eq 278, 3) := by decide +kernel
theorem d_L_law_383 : decode (xt_code m_L_law) 383 = .ok (.iconst 0, 1) := by decide +kernel
theorem d_L_law_384 : decode (xt_code m_L_law) 384 = .ok (.ireturn, 1) := by decide +kernel
theorem d_L_law_385 : decode (xt_code m_L_law) 385 = .ok (.aload_n 1, 1) := by decide +kernel
theorem d_L_law_386 : decode (xt_code m_L_law) 386 = .ok (.aload_n 0, 1) := by decide +kernel
theorem d_L_law_387 : decode (xt_code m_L_law) 387 = .ok (.iload_n 3, 1) := by decide +kernel
theorem d_L_law_388 : decode (xt_code m_L_law) 388 = .ok (.iconst 1, 1) := by decide +kernel
theorem d_L_law_389 : decode (xt_code m_L_law) 389 = .ok (.iadd, 1) := by decide +kernel
theorem d_L_law_390 : decode (xt_code m_L_law) 390 = .ok (.iaload, 1) := by decide +kernel
theorem d_L_law_391 : decode (xt_code m_L_law) 391 = .ok (.invokevirtual 47, 3) := by decide +kernel
theorem d_L_law_394 : decode (xt_code m_L_law) 394 = .ok (.aload_n 2, 1) := by decide +kernel
theorem d_L_law_395 : decode (xt_code m_L_law) 395 = .ok (.aload_n 0, 1) := by decide +kernel
theorem d_L_law_396 : decode (xt_code m_L_law) 396 = .ok (.iload_n 3, 1) := by decide +kernel
theorem d_L_law_397 : decode (xt_code m_L_law) 397 = .ok (.iconst 1, 1) := by decide +kernel
theorem d_L_law_398 : decode (xt_code m_L_law) 398 = .ok (.iadd, 1) := by decide +kernel
theorem d_L_law_399 : decode (xt_code m_L_law) 399 = .ok (.iaload, 1) := by decide +kernel
theorem d_L_law_400 : decode (xt_code m_L_law) 400 = .ok (.invokevirtual 50, 3) := by decide +kernel
theorem d_L_law_403 : decode (xt_code m_L_law) 403 = .ok (.if_icmp .eq 255, 3) := by decide +kernel
theorem d_L_law_406 : decode (xt_code m_L_law) 406 = .ok (.iconst 0, 1) := by decide +kernel
theorem d_L_law_407 : decode (xt_code m_L_law) 407 = .ok (.ireturn, 1) := by decide +kernel
theorem d_L_law_408 : decode (xt_code m_L_law) 408 = .ok (.aload_n 1, 1) := by decide +kernel
theorem d_L_law_409 : decode (xt_code m_L_law) 409 = .ok (.aload_n 0, 1) := by decide +kernel
theorem d_L_law_410 : decode (xt_code m_L_law) 410 = .ok (.iload_n 3, 1) := by decide +kernel
theorem d_L_law_411 : decode (xt_code m_L_law) 411 = .ok (.iconst 1, 1) := by decide +kernel
theorem d_L_law_412 : decode (xt_code m_L_law) 412 = .ok (.iadd, 1) := by decide +kernel
theorem d_L_law_413 : decode (xt_code m_L_law) 413 = .ok (.iaload, 1) := by decide +kernel
theorem d_L_law_414 : decode (xt_code m_L_law) 414 = .ok (.aload_n 0, 1) := by decide +kernel
theorem d_L_law_415 : decode (xt_code m_L_law) 415 = .ok (.iload_n 3, 1) := by decide +kernel
theorem d_L_law_416 : decode (xt_code m_L_law) 416 = .ok (.iconst 2, 1) := by decide +kernel
theorem d_L_law_417 : decode (xt_code m_L_law) 417 = .ok (.iadd, 1) := by decide +kernel
theorem d_L_law_418 : decode (xt_code m_L_law) 418 = .ok (.iaload, 1) := by decide +kernel
theorem d_L_law_419 : decode (xt_code m_L_law) 419 = .ok (.ifCond .eq 7, 3) := by decide +kernel
theorem d_L_law_422 : decode (xt_code m_L_law) 422 = .ok (.iconst 1, 1) := by decide +kernel
theorem d_L_law_423 : decode (xt_code m_L_law) 423 = .ok (.goto 4, 3) := by decide +kernel
theorem d_L_law_426 : decode (xt_code m_L_law) 426 = .ok (.iconst 0, 1) := by decide +kernel
theorem d_L_law_427 : decode (xt_code m_L_law) 427 = .ok (.aload_n 0, 1) := by decide +kernel
theorem d_L_law_428 : decode (xt_code m_L_law) 428 = .ok (.iload_n 3, 1) := by decide +kernel
theorem d_L_law_429 : decode (xt_code m_L_law) 429 = .ok (.iconst 3, 1) := by decide +kernel
theorem d_L_law_430 : decode (xt_code m_L_law) 430 = .ok (.iadd, 1) := by decide +kernel
theorem d_L_law_431 : decode (xt_code m_L_law) 431 = .ok (.iaload, 1) := by decide +kernel
theorem d_L_law_432 : decode (xt_code m_L_law) 432 = .ok (.invokevirtual 51, 3) := by decide +kernel
theorem d_L_law_435 : decode (xt_code m_L_law) 435 = .ok (.aload_n 2, 1) := by decide +kernel
theorem d_L_law_436 : decode (xt_code m_L_law) 436 = .ok (.aload_n 0, 1) := by decide +kernel
theorem d_L_law_437 : decode (xt_code m_L_law) 437 = .ok (.iload_n 3, 1) := by decide +kernel
theorem d_L_law_438 : decode (xt_code m_L_law) 438 = .ok (.iconst 1, 1) := by decide +kernel
theorem d_L_law_439 : decode (xt_code m_L_law) 439 = .ok (.iadd, 1) := by decide +kernel
theorem d_L_law_440 : decode (xt_code m_L_law) 440 = .ok (.iaload, 1) := by decide +kernel
theorem d_L_law_441 : decode (xt_code m_L_law) 441 = .ok (.aload_n 0, 1) := by decide +kernel
theorem d_L_law_442 : decode (xt_code m_L_law) 442 = .ok (.iload_n 3, 1) := by decide +kernel
theorem d_L_law_443 : decode (xt_code m_L_law) 443 = .ok (.iconst 2, 1) := by decide +kernel
theorem d_L_law_444 : decode (xt_code m_L_law) 444 = .ok (.iadd, 1) := by decide +kernel
theorem d_L_law_445 : decode (xt_code m_L_law) 445 = .ok (.iaload, 1) := by decide +kernel
theorem d_L_law_446 : decode (xt_code m_L_law) 446 = .ok (.ifCond .eq 7, 3) := by decide +kernel
theorem d_L_law_449 : decode (xt_code m_L_law) 449 = .ok (.iconst 1, 1) := by decide +kernel
theorem d_L_law_450 : decode (xt_code m_L_law) 450 = .ok (.goto 4, 3) := by decide +kernel
theorem d_L_law_453 : decode (xt_code m_L_law) 453 = .ok (.iconst 0, 1) := by decide +kernel
theorem d_L_law_454 : decode (xt_code m_L_law) 454 = .ok (.aload_n 0, 1) := by decide +kernel
theorem d_L_law_455 : decode (xt_code m_L_law) 455 = .ok (.iload_n 3, 1) := by decide +kernel
theorem d_L_law_456 : decode (xt_code m_L_law) 456 = .ok (.iconst 3, 1) := by decide +kernel
theorem d_L_law_457 : decode (xt_code m_L_law) 457 = .ok (.iadd, 1) := by decide +kernel
theorem d_L_law_458 : decode (xt_code m_L_law) 458 = .ok (.iaload, 1) := by decide +kernel
theorem d_L_law_459 : decode (xt_code m_L_law) 459 = .ok (.invokevirtual 55, 3) := by decide +kernel
theorem d_L_law_462 : decode (xt_code m_L_law) 462 = .ok (.if_icmp .eq 196, 3) := by decide +kernel
theorem d_L_law_465 : decode (xt_code m_L_law) 465 = .ok (.iconst 0, 1) := by decide +kernel
theorem d_L_law_466 : decode (xt_code m_L_law) 466 = .ok (.ireturn, 1) := by decide +kernel
theorem d_L_law_467 : decode (xt_code m_L_law) 467 = .ok (.aload_n 1, 1) := by decide +kernel
theorem d_L_law_468 : decode (xt_code m_L_law) 468 = .ok (.aload_n 0, 1) := by decide +kernel
theorem d_L_law_469 : decode (xt_code m_L_law) 469 = .ok (.iload_n 3, 1) := by decide +kernel
theorem d_L_law_470 : decode (xt_code m_L_law) 470 = .ok (.iconst 1, 1) := by decide +kernel
theorem d_L_law_471 : decode (xt_code m_L_law) 471 = .ok (.iadd, 1) := by decide +kernel
theorem d_L_law_472 : decode (xt_code m_L_law) 472 = .ok (.iaload, 1) := by decide +kernel
theorem d_L_law_473 : decode (xt_code m_L_law) 473 = .ok (.invokevirtual 56, 3) := by decide +kernel
theorem d_L_law_476 : decode (xt_code m_L_law) 476 = .ok (.aload_n 2, 1) := by decide +kernel
theorem d_L_law_477 : decode (xt_code m_L_law) 477 = .ok (.aload_n 0, 1) := by decide +kernel
theorem d_L_law_478 : decode (xt_code m_L_law) 478 = .ok (.iload_n 3, 1) := by decide +kernel
theorem d_L_law_479 : decode (xt_code m_L_law) 479 = .ok (.iconst 1, 1) := by decide +kernel
theorem d_L_law_480 : decode (xt_code m_L_law) 480 = .ok (.iadd, 1) := by decide +kernel
theorem d_L_law_481 : decode (xt_code m_L_law) 481 = .ok (.iaload, 1) := by decide +kernel
theorem d_L_law_482 : decode (xt_code m_L_law) 482 = .ok (.invokevirtual 59, 3) := by decide +kernel
theorem d_L_law_485 : decode (xt_code m_L_law) 485 = .ok (.if_icmp .eq 173, 3) := by decide +kernel
theorem d_L_law_488 : decode (xt_code m_L_law) 488 = .ok (.iconst 0, 1) := by decide +kernel
theorem d_L_law_489 : decode (xt_code m_L_law) 489 = .ok (.ireturn, 1) := by decide +kernel
theorem d_L_law_490 : decode (xt_code m_L_law) 490 = .ok (.aload_n 1, 1) := by decide +kernel
theorem d_L_law_491 : decode (xt_code m_L_law) 491 = .ok (.aload_n 0, 1) := by decide +kernel
theorem d_L_law_492 : decode (xt_code m_L_law) 492 = .ok (.iload_n 3, 1) := by decide +kernel
theorem d_L_law_493 : decode (xt_code m_L_law) 493 = .ok (.iconst 1, 1) := by decide +kernel
theorem d_L_law_494 : decode (xt_code m_L_law) 494 = .ok (.iadd, 1) := by decide +kernel
theorem d_L_law_495 : decode (xt_code m_L_law) 495 = .ok (.iaload, 1) := by decide +kernel
theorem d_L_law_496 : decode (xt_code m_L_law) 496 = .ok (.invokevirtual 60, 3) := by decide +kernel
theorem d_L_law_499 : decode (xt_code m_L_law) 499 = .ok (.aload_n 2, 1) := by decide +kernel
theorem d_L_law_500 : decode (xt_code m_L_law) 500 = .ok (.aload_n 0, 1) := by decide +kernel
theorem d_L_law_501 : decode (xt_code m_L_law) 501 = .ok (.iload_n 3, 1) := by decide +kernel
theorem d_L_law_502 : decode (xt_code m_L_law) 502 = .ok (.iconst 1, 1) := by decide +kernel
theorem d_L_law_503 : decode (xt_code m_L_law) 503 = .ok (.iadd, 1) := by decide +kernel
theorem d_L_law_504 : decode (xt_code m_L_law) 504 = .ok (.iaload, 1) := by decide +kernel
theorem d_L_law_505 : decode (xt_code m_L_law) 505 = .ok (.invokevirtual 63, 3) := by decide +kernel
theorem d_L_law_508 : decode (xt_code m_L_law) 508 = .ok (.if_icmp .eq 150, 3) := by decide +kernel
theorem d_L_law_511 : decode (xt_code m_L_law) 511 = .ok (.iconst 0, 1) := by decide +kernel
theorem d_L_law_512 : decode (xt_code m_L_law) 512 = .ok (.ireturn, 1) := by decide +kernel
theorem d_L_law_513 : decode (xt_code m_L_law) 513 = .ok (.aload_n 1, 1) := by decide +kernel
end
section
/-! decode rows, by program -/
theorem d_L_law_514 : decode (xt_code m_L_law) 514 = .ok (.aload_n 0, 1) := by decide +kernel
theorem d_L_law_515 : decode (xt_code m_L_law) 515 = .ok (.iload_n 3, 1) := by decide +kernel
theorem d_L_law_516 : decode (xt_code m_L_law) 516 = .ok (.iconst 1, 1) := by decide +kernel
theorem d_L_law_517 : decode (xt_code m_L_law) 517 = .ok (.iadd, 1) := by decide +kernel
theorem d_L_law_518 : decode (xt_code m_L_law) 518 = .ok (.iaload, 1) := by decide +kernel
theorem d_L_law_519 : decode (xt_code m_L_law) 519 = .ok (.invokevirtual 64, 3) := by decide +kernel
theorem d_L_law_522 : decode (xt_code m_L_law) 522 = .ok (.aload_n 2, 1) := by decide +kernel
theorem d_L_law_523 : decode (xt_code m_L_law) 523 = .ok (.aload_n 0, 1) := by decide +kernel
theorem d_L_law_524 : decode (xt_code m_L_law) 524 = .ok (.iload_n 3, 1) := by decide +kernel
theorem d_L_law_525 : decode (xt_code m_L_law) 525 = .ok (.iconst 1, 1) := by decide +kernel
theorem d_L_law_526 : decode (xt_code m_L_law) 526 = .ok (.iadd, 1) := by decide +kernel
theorem d_L_law_527 : decode (xt_code m_L_law) 527 = .ok (.iaload, 1) := by decide +kernel
theorem d_L_law_528 : decode (xt_code m_L_law) 528 = .ok (.invokevirtual 67, 3) := by decide +kernel
theorem d_L_law_531 : decode (xt_code m_L_law) 531 = .ok (.if_icmp .eq 127, 3) := by decide +kernel
theorem d_L_law_534 : decode (xt_code m_L_law) 534 = .ok (.iconst 0, 1) := by decide +kernel
theorem d_L_law_535 : decode (xt_code m_L_law) 535 = .ok (.ireturn, 1) := by decide +kernel
theorem d_L_law_536 : decode (xt_code m_L_law) 536 = .ok (.aload_n 1, 1) := by decide +kernel
theorem d_L_law_537 : decode (xt_code m_L_law) 537 = .ok (.aload_n 0, 1) := by decide +kernel
theorem d_L_law_538 : decode (xt_code m_L_law) 538 = .ok (.iload_n 3, 1) := by decide +kernel
theorem d_L_law_539 : decode (xt_code m_L_law) 539 = .ok (.iconst 1, 1) := by decide +kernel
theorem d_L_law_540 : decode (xt_code m_L_law) 540 = .ok (.iadd, 1) := by decide +kernel
theorem d_L_law_541 : decode (xt_code m_L_law) 541 = .ok (.iaload, 1) := by decide +kernel
theorem d_L_law_542 : decode (xt_code m_L_law) 542 = .ok (.aload_n 0, 1) := by decide +kernel
theorem d_L_law_543 : decode (xt_code m_L_law) 543 = .ok (.iload_n 3, 1) := by decide +kernel
theorem d_L_law_544 : decode (xt_code m_L_law) 544 = .ok (.iconst 2, 1) := by decide +kernel
theorem d_L_law_545 : decode (xt_code m_L_law) 545 = .ok (.iadd, 1) := by decide +kernel
theorem d_L_law_546 : decode (xt_code m_L_law) 546 = .ok (.iaload, 1) := by decide +kernel
theorem d_L_law_547 : decode (xt_code m_L_law) 547 = .ok (.invokevirtual 68, 3) := by decide +kernel
theorem d_L_law_550 : decode (xt_code m_L_law) 550 = .ok (.aload_n 2, 1) := by decide +kernel
theorem d_L_law_551 : decode (xt_code m_L_law) 551 = .ok (.aload_n 0, 1) := by decide +kernel
theorem d_L_law_552 : decode (xt_code m_L_law) 552 = .ok (.iload_n 3, 1) := by decide +kernel
theorem d_L_law_553 : decode (xt_code m_L_law) 553 = .ok (.iconst 1, 1) := by decide +kernel
theorem d_L_law_554 : decode (xt_code m_L_law) 554 = .ok (.iadd, 1) := by decide +kernel
theorem d_L_law_555 : decode (xt_code m_L_law) 555 = .ok (.iaload, 1) := by decide +kernel
theorem d_L_law_556 : decode (xt_code m_L_law) 556 = .ok (.aload_n 0, 1) := by decide +kernel
theorem d_L_law_557 : decode (xt_code m_L_law) 557 = .ok (.iload_n 3, 1) := by decide +kernel
theorem d_L_law_558 : decode (xt_code m_L_law) 558 = .ok (.iconst 2, 1) := by decide +kernel
theorem d_L_law_559 : decode (xt_code m_L_law) 559 = .ok (.iadd, 1) := by decide +kernel
theorem d_L_law_560 : decode (xt_code m_L_law) 560 = .ok (.iaload, 1) := by decide +kernel
theorem d_L_law_561 : decode (xt_code m_L_law) 561 = .ok (.invokevirtual 71, 3) := by decide +kernel
theorem d_L_law_564 : decode (xt_code m_L_law) 564 = .ok (.if_icmp .eq 94, 3) := by decide +kernel
theorem d_L_law_567 : decode (xt_code m_L_law) 567 = .ok (.iconst 0, 1) := by decide +kernel
theorem d_L_law_568 : decode (xt_code m_L_law) 568 = .ok (.ireturn, 1) := by decide +kernel
theorem d_L_law_569 : decode (xt_code m_L_law) 569 = .ok (.aload_n 1, 1) := by decide +kernel
theorem d_L_law_570 : decode (xt_code m_L_law) 570 = .ok (.aload_n 0, 1) := by decide +kernel
theorem d_L_law_571 : decode (xt_code m_L_law) 571 = .ok (.iload_n 3, 1) := by decide +kernel
theorem d_L_law_572 : decode (xt_code m_L_law) 572 = .ok (.iconst 1, 1) := by decide +kernel
theorem d_L_law_573 : decode (xt_code m_L_law) 573 = .ok (.iadd, 1) := by decide +kernel
theorem d_L_law_574 : decode (xt_code m_L_law) 574 = .ok (.iaload, 1) := by decide +kernel
theorem d_L_law_575 : decode (xt_code m_L_law) 575 = .ok (.aload_n 0, 1) := by decide +kernel
theorem d_L_law_576 : decode (xt_code m_L_law) 576 = .ok (.iload_n 3, 1) := by decide +kernel
theorem d_L_law_577 : decode (xt_code m_L_law) 577 = .ok (.iconst 2, 1) := by decide +kernel
theorem d_L_law_578 : decode (xt_code m_L_law) 578 = .ok (.iadd, 1) := by decide +kernel
theorem d_L_law_579 : decode (xt_code m_L_law) 579 = .ok (.iaload, 1) := by decide +kernel
theorem d_L_law_580 : decode (xt_code m_L_law) 580 = .ok (.aload_n 0, 1) := by decide +kernel
theorem d_L_law_581 : decode (xt_code m_L_law) 581 = .ok (.iload_n 3, 1) := by decide +kernel
theorem d_L_law_582 : decode (xt_code m_L_law) 582 = .ok (.iconst 3, 1) := by decide +kernel
theorem d_L_law_583 : decode (xt_code m_L_law) 583 = .ok (.iadd, 1) := by decide +kernel
theorem d_L_law_584 : decode (xt_code m_L_law) 584 = .ok (.iaload, 1) := by decide +kernel
theorem d_L_law_585 : decode (xt_code m_L_law) 585 = .ok (.invokevirtual 72, 3) := by decide +kernel
theorem d_L_law_588 : decode (xt_code m_L_law) 588 = .ok (.aload_n 2, 1) := by decide +kernel
theorem d_L_law_589 : decode (xt_code m_L_law) 589 = .ok (.aload_n 0, 1) := by decide +kernel
theorem d_L_law_590 : decode (xt_code m_L_law) 590 = .ok (.iload_n 3, 1) := by decide +kernel
theorem d_L_law_591 : decode (xt_code m_L_law) 591 = .ok (.iconst 1, 1) := by decide +kernel
theorem d_L_law_592 : decode (xt_code m_L_law) 592 = .ok (.iadd, 1) := by decide +kernel
theorem d_L_law_593 : decode (xt_code m_L_law) 593 = .ok (.iaload, 1) := by decide +kernel
theorem d_L_law_594 : decode (xt_code m_L_law) 594 = .ok (.aload_n 0, 1) := by decide +kernel
theorem d_L_law_595 : decode (xt_code m_L_law) 595 = .ok (.iload_n 3, 1) := by decide +kernel
theorem d_L_law_596 : decode (xt_code m_L_law) 596 = .ok (.iconst 2, 1) := by decide +kernel
theorem d_L_law_597 : decode (xt_code m_L_law) 597 = .ok (.iadd, 1) := by decide +kernel
theorem d_L_law_598 : decode (xt_code m_L_law) 598 = .ok (.iaload, 1) := by decide +kernel
theorem d_L_law_599 : decode (xt_code m_L_law) 599 = .ok (.aload_n 0, 1) := by decide +kernel
theorem d_L_law_600 : decode (xt_code m_L_law) 600 = .ok (.iload_n 3, 1) := by decide +kernel
theorem d_L_law_601 : decode (xt_code m_L_law) 601 = .ok (.iconst 3, 1) := by decide +kernel
theorem d_L_law_602 : decode (xt_code m_L_law) 602 = .ok (.iadd, 1) := by decide +kernel
theorem d_L_law_603 : decode (xt_code m_L_law) 603 = .ok (.iaload, 1) := by decide +kernel
theorem d_L_law_604 : decode (xt_code m_L_law) 604 = .ok (.invokevirtual 75, 3) := by decide +kernel
theorem d_L_law_607 : decode (xt_code m_L_law) 607 = .ok (.if_icmp .eq 51, 3) := by decide +kernel
theorem d_L_law_610 : decode (xt_code m_L_law) 610 = .ok (.iconst 0, 1) := by decide +kernel
theorem d_L_law_611 : decode (xt_code m_L_law) 611 = .ok (.ireturn, 1) := by decide +kernel
theorem d_L_law_612 : decode (xt_code m_L_law) 612 = .ok (.aload_n 1, 1) := by decide +kernel
theorem d_L_law_613 : decode (xt_code m_L_law) 613 = .ok (.aload_n 0, 1) := by decide +kernel
theorem d_L_law_614 : decode (xt_code m_L_law) 614 = .ok (.iload_n 3, 1) := by decide +kernel
theorem d_L_law_615 : decode (xt_code m_L_law) 615 = .ok (.iconst 1, 1) := by decide +kernel
theorem d_L_law_616 : decode (xt_code m_L_law) 616 = .ok (.iadd, 1) := by decide +kernel
theorem d_L_law_617 : decode (xt_code m_L_law) 617 = .ok (.iaload, 1) := by decide +kernel
theorem d_L_law_618 : decode (xt_code m_L_law) 618 = .ok (.invokevirtual 76, 3) := by decide +kernel
theorem d_L_law_621 : decode (xt_code m_L_law) 621 = .ok (.aload_n 2, 1) := by decide +kernel
theorem d_L_law_622 : decode (xt_code m_L_law) 622 = .ok (.aload_n 0, 1) := by decide +kernel
theorem d_L_law_623 : decode (xt_code m_L_law) 623 = .ok (.iload_n 3, 1) := by decide +kernel
theorem d_L_law_624 : decode (xt_code m_L_law) 624 = .ok (.iconst 1, 1) := by decide +kernel
theorem d_L_law_625 : decode (xt_code m_L_law) 625 = .ok (.iadd, 1) := by decide +kernel
theorem d_L_law_626 : decode (xt_code m_L_law) 626 = .ok (.iaload, 1) := by decide +kernel
theorem d_L_law_627 : decode (xt_code m_L_law) 627 = .ok (.invokevirtual 79, 3) := by decide +kernel
theorem d_L_law_630 : decode (xt_code m_L_law) 630 = .ok (.if_icmp .eq 28, 3) := by decide +kernel
theorem d_L_law_633 : decode (xt_code m_L_law) 633 = .ok (.iconst 0, 1) := by decide +kernel
theorem d_L_law_634 : decode (xt_code m_L_law) 634 = .ok (.ireturn, 1) := by decide +kernel
theorem d_L_law_635 : decode (xt_code m_L_law) 635 = .ok (.aload_n 1, 1) := by decide +kernel
theorem d_L_law_636 : decode (xt_code m_L_law) 636 = .ok (.aload_n 0, 1) := by decide +kernel
theorem d_L_law_637 : decode (xt_code m_L_law) 637 = .ok (.iload_n 3, 1) := by decide +kernel
theorem d_L_law_638 : decode (xt_code m_L_law) 638 = .ok (.iconst 1, 1) := by decide +kernel
theorem d_L_law_639 : decode (xt_code m_L_law) 639 = .ok (.iadd, 1) := by decide +kernel
theorem d_L_law_640 : decode (xt_code m_L_law) 640 = .ok (.iaload, 1) := by decide +kernel
theorem d_L_law_641 : decode (xt_code m_L_law) 641 = .ok (.invokevirtual 80, 3) := by decide +kernel
theorem d_L_law_644 : decode (xt_code m_L_law) 644 = .ok (.aload_n 2, 1) := by decide +kernel
theorem d_L_law_645 : decode (xt_code m_L_law) 645 = .ok (.aload_n 0, 1) := by decide +kernel
theorem d_L_law_646 : decode (xt_code m_L_law) 646 = .ok (.iload_n 3, 1) := by decide +kernel
theorem d_L_law_647 : decode (xt_code m_L_law) 647 = .ok (.iconst 1, 1) := by decide +kernel
theorem d_L_law_648 : decode (xt_code m_L_law) 648 = .ok (.iadd, 1) := by decide +kernel
theorem d_L_law_649 : decode (xt_code m_L_law) 649 = .ok (.iaload, 1) := by decide +kernel
theorem d_L_law_650 : decode (xt_code m_L_law) 650 = .ok (.invokevirtual 83, 3) := by decide +kernel
theorem d_L_law_653 : decode (xt_code m_L_law) 653 = .ok (.if_icmp .eq 5, 3) := by decide +kernel
theorem d_L_law_656 : decode (xt_code m_L_law) 656 = .ok (.iconst 0, 1) := by decide +kernel
theorem d_L_law_657 : decode (xt_code m_L_law) 657 = .ok (.ireturn, 1) := by decide +kernel
theorem d_L_law_658 : decode (xt_code m_L_law) 658 = .ok (.iinc 3 6, 3) := by decide +kernel
theorem d_L_law_661 : decode (xt_code m_L_law) 661 = .ok (.goto (-643), 3) := by decide +kernel
theorem d_L_law_664 : decode (xt_code m_L_law) 664 = .ok (.iconst 1, 1) := by decide +kernel
theorem d_L_law_665 : decode (xt_code m_L_law) 665 = .ok (.ireturn, 1) := by decide +kernel
end
section
theorem xr_ldcw {g : xm_G} {d pc : Nat} {y : xm_M} {ls : List (Option Value)} {st : List Value} {h : xm_H} {Q : Option Value → xm_H → Prop} {i : Nat} {v : Int32} (hd : decode (xt_code y) pc = .ok (.ldc_w i, 3)) (hv : xm_okL (xt_own y) i v) (K : xm_S g d y (pc + 3, ls, .int v :: st) h Q) : xm_S g d y (pc, ls, st) h Q :=
  xm_pure (fun _ _ _ _ _ _ _ _ _ _ _ _ _ _ _ C hX hl k => lv_ldcw C.1 C.2.1 C.2.2.2.2.1 (C.2.2.2.2.2.1 _ hv) hd k) K
theorem xr_iinc1 {g : xm_G} {d pc : Nat} {y : xm_M} {ls : List (Option Value)} {st : List Value} {h : xm_H} {Q : Option Value → xm_H → Prop} {i : Nat} {x : Int32} (hd : decode (xt_code y) pc = .ok (.iinc i 1, 3)) (hx : ls[i]? = some (some (.int x))) (K : xm_S g d y (pc + 3, ls.set i (some (.int (x + 1))), st) h Q) : xm_S g d y (pc, ls, st) h Q := xr_iinc hd hx rfl K
end
section
/-! THE STATE of class and reference alike, as numbers: how many jobs, runners, runs; clock, lost; and a family of ints by field and place: by job 0 labels, 1 limit, 2 retries, 3 need, 4 always, 5 wants; by run 6 person, 7 group, 8 cancelled; by task (12 times the run, and the job) 9 state, 10 since, 11 tries, 12 failures, 13 losses, 14 losses now, 15 artefact, 16 approvals; by runner 17 labels, 18 beat, 19 what it has (-1: nothing). -/
abbrev kS : Type := (Nat × Nat × Nat) × (Int32 × Int32) × (Nat → Nat → Int32)
abbrev kj (s : kS) : Nat := s.1.1
abbrev kr (s : kS) : Nat := s.1.2.1
abbrev kq (s : kS) : Nat := s.1.2.2
abbrev kc (s : kS) : Int32 := s.2.1.1
abbrev kl (s : kS) : Int32 := s.2.1.2
abbrev kF (s : kS) : Nat → Nat → Int32 := s.2.2
def up1 {α : Type} (f : Nat → α) (i : Nat) (v : α) : Nat → α := fun a => if a = i then v else f a
def up2 {α : Type} (f : Nat → Nat → α) (i k : Nat) (v : α) : Nat → Nat → α := fun a b => if a = i ∧ b = k then v else f a b
theorem up1_s {α : Type} (f : Nat → α) (i : Nat) (v : α) : up1 f i v i = v := by simp [up1]
theorem up1_n {α : Type} (f : Nat → α) {i j : Nat} (v : α) (h : j ≠ i) : up1 f i v j = f j := by simp [up1, h]
theorem up2_s {α : Type} (f : Nat → Nat → α) (i k : Nat) (v : α) : up2 f i k v i k = v := by simp [up2]
theorem up2_a {α : Type} (f : Nat → Nat → α) {i k a b : Nat} (v : α) (h : a ≠ i) : up2 f i k v a b = f a b := by simp [up2, h]
theorem up2_b {α : Type} (f : Nat → Nat → α) {i k a b : Nat} (v : α) (h : b ≠ k) : up2 f i k v a b = f a b := by simp [up2, h]
/-- one number is written -/
def kw (s : kS) (f i : Nat) (v : Int32) : kS := (s.1, s.2.1, up2 (kF s) f i v)
theorem kw_F (s : kS) (f i : Nat) (v : Int32) (a b : Nat) : kF (kw s f i v) a b = if a = f ∧ b = i then v else kF s a b := rfl
/-- what a runner has, as a place -/
def khx (v : Int32) : Option Nat := if v = -1 then none else some v.toNatClampNeg
def kbz (v : Int32) : Int32 := if v = 0 then 0 else 1
/-! THE WORLD: where the cells lie (kind, number), and what they are. Kinds: 0 the object (0) and its arrays of jobs, runners, runs (1, 2, 3); 1 jobs; 2 runners; 3 runs; 4 a run's array of tasks; 5 tasks; 6 the reference (0) and its arrays (1 + field). c: the class's numbers, R: which runner a task knows, m: the reference's numbers. -/
abbrev kA : Type := Nat → Nat → Nat
def kv (c : kS) (k i : Nat) : Prop := match k with
  | 0 => i < 4
  | 1 => i < kj c
  | 2 => i < kr c
  | 3 => i < kq c
  | 4 => i < kq c
  | 5 => i < 12 * kq c ∧ i % 12 < kj c
  | 6 => i < 21
  | _ => False
/-- the arrays of the reference: how long, of which type -/
def km_len (f : Nat) : Nat := if f < 6 then 12 else if f < 9 then 10 else if f < 17 then 120 else 6
def km_ty (f : Nat) : Nat := if f = 4 ∨ f = 5 ∨ f = 8 then 1 else 0
def kd0 (c : kS) (A : kA) (i : Nat) : xm_E := match i with
  | 0 => .inl (4, [.ref (A 0 1), .ref (A 0 2), .ref (A 0 3), .int (nI (kj c)), .int (nI (kr c)), .int (nI (kq c)), .int (kc c), .int (kl c)])
  | 1 => .inr (2, 12, fun j => va_rf (if j < kj c then some (A 1 j) else none))
  | 2 => .inr (3, 6, fun j => va_rf (if j < kr c then some (A 2 j) else none))
  | _ => .inr (4, 10, fun j => va_rf (if j < kq c then some (A 3 j) else none))
def kd1 (c : kS) (i : Nat) : xm_E := .inl (0, [.int (kF c 0 i), .int (kF c 1 i), .int (kF c 2 i), .int (kF c 4 i), .int (kF c 5 i), .int (kF c 3 i)])
def kd2 (c : kS) (A : kA) (i : Nat) : xm_E := .inl (2, [.int (nI i), .int (kF c 17 i), .int (kF c 18 i), va_rf ((khx (kF c 19 i)).map (A 5))])
def kd3 (c : kS) (A : kA) (i : Nat) : xm_E := .inl (1, [.int (nI i), .int (kF c 6 i), .int (kF c 7 i), .ref (A 4 i), .int (kF c 8 i)])
def kd4 (c : kS) (A : kA) (i : Nat) : xm_E := .inr (5, kj c, fun j => if j < 12 then .ref (A 5 (12 * i + j)) else .null)
def kd5 (c : kS) (R : Nat → Option Nat) (A : kA) (x : Nat) : xm_E := .inl (3, [.ref (A 3 (x / 12)), .int (nI (x % 12)), .ref (A 1 (x % 12)), .int (kF c 9 x), va_rf ((R x).map (A 2)), .int (kF c 10 x), .int (kF c 16 x), .int (kF c 15 x), .int (kF c 11 x), .int (kF c 13 x), .int (kF c 12 x), .int (kbz (kF c 14 x))])
def kd6 (m : kS) (A : kA) (i : Nat) : xm_E := match i with
  | 0 => .inl (5, [.int 0, .int (kc m), .int (kl m), .int (nI (kj m)), .int (nI (kq m)), .int (nI (kr m)), .ref (A 6 1), .ref (A 6 2), .ref (A 6 3), .ref (A 6 4), .ref (A 6 5), .ref (A 6 6), .ref (A 6 7), .ref (A 6 8), .ref (A 6 9), .ref (A 6 10), .ref (A 6 11), .ref (A 6 12), .ref (A 6 13), .ref (A 6 14), .ref (A 6 15), .ref (A 6 16), .ref (A 6 17), .ref (A 6 18), .ref (A 6 19), .ref (A 6 20)])
  | f + 1 => .inr (km_ty f, km_len f, fun j => .int (kF m f j))
def kd (c : kS) (R : Nat → Option Nat) (m : kS) (A : kA) (k i : Nat) : xm_E := match k with
  | 0 => kd0 c A i
  | 1 => kd1 c i
  | 2 => kd2 c A i
  | 3 => kd3 c A i
  | 4 => kd4 c A i
  | 5 => kd5 c R A i
  | 6 => kd6 m A i
  | _ => .inl (0, [])
def kW (c : kS) (R : Nat → Option Nat) (m : kS) (A : kA) (h : xm_H) : Prop :=
  (∀ k i, kv c k i → h.1 (A k i) = some (kd c R m A k i) ∧ A k i < h.2.1) ∧ (∀ k i k' i', kv c k i → kv c k' i' → A k i = A k' i' → k = k' ∧ i = i') ∧ kj c ≤ 12 ∧ kr c ≤ 6 ∧ kq c ≤ 10
theorem kv_eq {c c' : kS} (hc : c'.1 = c.1) (k i : Nat) : kv c' k i = kv c k i := by
  obtain ⟨a, b⟩ := c
  obtain ⟨a', b'⟩ := c'
  cases hc
  rfl
/-- one cell of the world is written: the numbers change so that this cell's picture alone changes -/
theorem kW.put {c c' : kS} {R R' : Nat → Option Nat} {m m' : kS} {A : kA} {h : xm_H} (hW : kW c R m A h) {k0 i0 : Nat} {e : xm_E} (h0 : kv c k0 i0) (hc : c'.1 = c.1) (he : kd c' R' m' A k0 i0 = e) (ho : ∀ k i, ¬ (k = k0 ∧ i = i0) → kd c' R' m' A k i = kd c R m A k i) : kW c' R' m' A (xm_up h.1 (A k0 i0) e, h.2) := by
  refine ⟨fun k i hk => ?_, fun k i k' i' hk hk' => ?_, by rw [show kj c' = kj c from congrArg (fun z => z.1) hc, show kr c' = kr c from congrArg (fun z => z.2.1) hc, show kq c' = kq c from congrArg (fun z => z.2.2) hc]; exact hW.2.2⟩
  · rw [kv_eq hc] at hk
    refine ⟨?_, (hW.1 k i hk).2⟩
    by_cases hq : k = k0 ∧ i = i0
    · obtain ⟨rfl, rfl⟩ := hq
      show xm_up h.1 (A k i) e (A k i) = _
      rw [xm_up_self, he]
    · show xm_up h.1 (A k0 i0) e (A k i) = _
      rw [xm_up_ne _ _ (fun z => hq (hW.2.1 k i k0 i0 hk h0 z)), (hW.1 k i hk).1, ho k i hq]
  · rw [kv_eq hc] at hk hk'
    exact hW.2.1 k i k' i' hk hk'
theorem kW.job {c : kS} {R : Nat → Option Nat} {m : kS} {A : kA} {h : xm_H} (hW : kW c R m A h) {i : Nat} (hi : i < kj c) : h.1 (A 1 i) = some (.inl (0, [.int (kF c 0 i), .int (kF c 1 i), .int (kF c 2 i), .int (kF c 4 i), .int (kF c 5 i), .int (kF c 3 i)])) := (hW.1 1 i hi).1
theorem kW.rnr {c : kS} {R : Nat → Option Nat} {m : kS} {A : kA} {h : xm_H} (hW : kW c R m A h) {i : Nat} (hi : i < kr c) : h.1 (A 2 i) = some (.inl (2, [.int (nI i), .int (kF c 17 i), .int (kF c 18 i), va_rf ((khx (kF c 19 i)).map (A 5))])) := (hW.1 2 i hi).1
theorem kW.run {c : kS} {R : Nat → Option Nat} {m : kS} {A : kA} {h : xm_H} (hW : kW c R m A h) {i : Nat} (hi : i < kq c) : h.1 (A 3 i) = some (.inl (1, [.int (nI i), .int (kF c 6 i), .int (kF c 7 i), .ref (A 4 i), .int (kF c 8 i)])) := (hW.1 3 i hi).1
theorem kW.tks {c : kS} {R : Nat → Option Nat} {m : kS} {A : kA} {h : xm_H} (hW : kW c R m A h) {i : Nat} (hi : i < kq c) : h.1 (A 4 i) = some (.inr (5, kj c, fun j => if j < 12 then .ref (A 5 (12 * i + j)) else .null)) := (hW.1 4 i hi).1
theorem kW.tsk {c : kS} {R : Nat → Option Nat} {m : kS} {A : kA} {h : xm_H} (hW : kW c R m A h) {x : Nat} (hx : x < 12 * kq c ∧ x % 12 < kj c) : h.1 (A 5 x) = some (.inl (3, [.ref (A 3 (x / 12)), .int (nI (x % 12)), .ref (A 1 (x % 12)), .int (kF c 9 x), va_rf ((R x).map (A 2)), .int (kF c 10 x), .int (kF c 16 x), .int (kF c 15 x), .int (kF c 11 x), .int (kF c 13 x), .int (kF c 12 x), .int (kbz (kF c 14 x))])) := (hW.1 5 x hx).1
theorem kW.this {c : kS} {R : Nat → Option Nat} {m : kS} {A : kA} {h : xm_H} (hW : kW c R m A h) : h.1 (A 0 0) = some (.inl (4, [.ref (A 0 1), .ref (A 0 2), .ref (A 0 3), .int (nI (kj c)), .int (nI (kr c)), .int (nI (kq c)), .int (kc c), .int (kl c)])) := (hW.1 0 0 (show 0 < 4 by decide)).1
theorem kW.ajob {c : kS} {R : Nat → Option Nat} {m : kS} {A : kA} {h : xm_H} (hW : kW c R m A h) : h.1 (A 0 1) = some (.inr (2, 12, fun j => va_rf (if j < kj c then some (A 1 j) else none))) := (hW.1 0 1 (show 1 < 4 by decide)).1
theorem kW.arnr {c : kS} {R : Nat → Option Nat} {m : kS} {A : kA} {h : xm_H} (hW : kW c R m A h) : h.1 (A 0 2) = some (.inr (3, 6, fun j => va_rf (if j < kr c then some (A 2 j) else none))) := (hW.1 0 2 (show 2 < 4 by decide)).1
theorem kW.arun {c : kS} {R : Nat → Option Nat} {m : kS} {A : kA} {h : xm_H} (hW : kW c R m A h) : h.1 (A 0 3) = some (.inr (4, 10, fun j => va_rf (if j < kq c then some (A 3 j) else none))) := (hW.1 0 3 (show 3 < 4 by decide)).1
theorem kW.ref {c : kS} {R : Nat → Option Nat} {m : kS} {A : kA} {h : xm_H} (hW : kW c R m A h) : h.1 (A 6 0) = some (.inl (5, [.int 0, .int (kc m), .int (kl m), .int (nI (kj m)), .int (nI (kq m)), .int (nI (kr m)), .ref (A 6 1), .ref (A 6 2), .ref (A 6 3), .ref (A 6 4), .ref (A 6 5), .ref (A 6 6), .ref (A 6 7), .ref (A 6 8), .ref (A 6 9), .ref (A 6 10), .ref (A 6 11), .ref (A 6 12), .ref (A 6 13), .ref (A 6 14), .ref (A 6 15), .ref (A 6 16), .ref (A 6 17), .ref (A 6 18), .ref (A 6 19), .ref (A 6 20)])) := (hW.1 6 0 (show 0 < 21 by decide)).1
theorem kW.arr {c : kS} {R : Nat → Option Nat} {m : kS} {A : kA} {h : xm_H} (hW : kW c R m A h) {f : Nat} (hf : f < 20) : h.1 (A 6 (f + 1)) = some (.inr (km_ty f, km_len f, fun j => .int (kF m f j))) := (hW.1 6 (f + 1) (by show f + 1 < 21; omega)).1
end
section
/-! rows of the world: a field of the system is written, an element read, and the numbers follow -/
section KRows
variable {g : xm_G} {d pc : Nat} {y : xm_M} {ls : List (Option Value)} {st : List Value} {h : xm_H} {Q : Option Value → xm_H → Prop} {c m : kS} {R : Nat → Option Nat} {A : kA} {i : Nat}
def ktk (f : Nat) : Nat := match f with
  | 9 => 3
  | 10 => 5
  | 16 => 6
  | 15 => 7
  | 11 => 8
  | 13 => 9
  | _ => 10
theorem kd_other_t {f x : Nat} {v : Int32} (hf : 9 ≤ f ∧ f ≤ 16) (k i : Nat) (hn : ¬ (k = 5 ∧ i = x)) : kd (kw c f x v) R m A k i = kd c R m A k i := by
  match k with
  | 0 => rfl
  | 1 => simp only [kd, kd1, kw_F]; rw [if_neg (by omega), if_neg (by omega), if_neg (by omega), if_neg (by omega), if_neg (by omega), if_neg (by omega)]
  | 2 => simp only [kd, kd2, kw_F]; rw [if_neg (by omega), if_neg (by omega), if_neg (by omega)]
  | 3 => simp only [kd, kd3, kw_F]; rw [if_neg (by omega), if_neg (by omega), if_neg (by omega)]
  | 4 => rfl
  | 5 =>
    have hi : ¬ i = x := fun e => hn ⟨rfl, e⟩
    simp [kd, kd5, kw_F, hi]
  | 6 => rfl
  | k + 7 => rfl
theorem kr_pt {f x : Nat} {v : Int32} (hW : kW c R m A h) (hx : x < 12 * kq c ∧ x % 12 < kj c) (hd : decode (xt_code y) pc = .ok (.putfield i, 3)) (hf : xm_okF (xt_own y) i 3 (ktk f)) (hff : f = 9 ∨ f = 10 ∨ f = 11 ∨ f = 12 ∨ f = 13 ∨ f = 15 ∨ f = 16) (K : ∀ h' : xm_H, kW (kw c f x v) R m A h' → h'.2 = h.2 → xm_S g d y (pc + 3, ls, st) h' Q) : xm_S g d y (pc, ls, .int v :: .ref (A 5 x) :: st) h Q := by
  have ho := kd_other_t (c := c) (R := R) (m := m) (A := A) (f := f) (x := x) (v := v) (by omega)
  rcases hff with rfl | rfl | rfl | rfl | rfl | rfl | rfl <;>
  · refine xr_putf hd hf (hW.tsk hx) rfl rfl rfl ?_
    exact K _ (hW.put (k0 := 5) (i0 := x) hx rfl (by simp [kd, kd5, kw_F, ktk, List.set]) ho) rfl
theorem kr_plost {x : Nat} {v w : Int32} (hW : kW c R m A h) (hx : x < 12 * kq c ∧ x % 12 < kj c) (hd : decode (xt_code y) pc = .ok (.putfield i, 3)) (hf : xm_okF (xt_own y) i 3 11) (hw : kbz w = v) (K : ∀ h' : xm_H, kW (kw c 14 x w) R m A h' → h'.2 = h.2 → xm_S g d y (pc + 3, ls, st) h' Q) : xm_S g d y (pc, ls, .int v :: .ref (A 5 x) :: st) h Q := by
  have ho := kd_other_t (c := c) (R := R) (m := m) (A := A) (f := 14) (x := x) (v := w) (by omega)
  have hv : v = 0 ∨ v = 1 := by
    unfold kbz at hw
    split at hw
    · exact Or.inl hw.symm
    · exact Or.inr hw.symm
  refine xr_putf hd hf (hW.tsk hx) rfl (by rcases hv with rfl | rfl <;> rfl) (by rcases hv with rfl | rfl <;> rfl) ?_
  exact K _ (hW.put (k0 := 5) (i0 := x) hx rfl (by simp [kd, kd5, kw_F, hw, List.set]) ho) rfl
/-- a task's runner -/
theorem kd_other_R {x : Nat} {v : Option Nat} (k i : Nat) (hn : ¬ (k = 5 ∧ i = x)) : kd c (up1 R x v) m A k i = kd c R m A k i := by
  match k with
  | 0 => rfl
  | 1 => rfl
  | 2 => rfl
  | 3 => rfl
  | 4 => rfl
  | 5 =>
    have hi : ¬ i = x := fun e => hn ⟨rfl, e⟩
    simp [kd, kd5, up1, hi]
  | 6 => rfl
  | k + 7 => rfl
theorem kr_prunN {x : Nat} (hW : kW c R m A h) (hx : x < 12 * kq c ∧ x % 12 < kj c) (hd : decode (xt_code y) pc = .ok (.putfield i, 3)) (hf : xm_okF (xt_own y) i 3 4) (K : ∀ h' : xm_H, kW c (up1 R x none) m A h' → h'.2 = h.2 → xm_S g d y (pc + 3, ls, st) h' Q) : xm_S g d y (pc, ls, .null :: .ref (A 5 x) :: st) h Q := by
  refine xr_putf hd hf (hW.tsk hx) rfl rfl rfl ?_
  exact K _ (hW.put (k0 := 5) (i0 := x) hx rfl (by simp [kd, kd5, up1, va_rf, List.set]) (fun k i => kd_other_R k i)) rfl
theorem kr_prun {x u : Nat} (hW : kW c R m A h) (hx : x < 12 * kq c ∧ x % 12 < kj c) (hd : decode (xt_code y) pc = .ok (.putfield i, 3)) (hf : xm_okF (xt_own y) i 3 4) (K : ∀ h' : xm_H, kW c (up1 R x (some u)) m A h' → h'.2 = h.2 → xm_S g d y (pc + 3, ls, st) h' Q) : xm_S g d y (pc, ls, .ref (A 2 u) :: .ref (A 5 x) :: st) h Q := by
  refine xr_putf hd hf (hW.tsk hx) rfl rfl rfl ?_
  exact K _ (hW.put (k0 := 5) (i0 := x) hx rfl (by simp [kd, kd5, up1, va_rf, List.set]) (fun k i => kd_other_R k i)) rfl
/-- a runner's fields -/
theorem kd_other_u {f u : Nat} {v : Int32} (hf : 17 ≤ f ∧ f ≤ 19) (k i : Nat) (hn : ¬ (k = 2 ∧ i = u)) : kd (kw c f u v) R m A k i = kd c R m A k i := by
  match k with
  | 0 => rfl
  | 1 => simp only [kd, kd1, kw_F]; rw [if_neg (by omega), if_neg (by omega), if_neg (by omega), if_neg (by omega), if_neg (by omega), if_neg (by omega)]
  | 2 =>
    have hi : ¬ i = u := fun e => hn ⟨rfl, e⟩
    simp [kd, kd2, kw_F, hi]
  | 3 => simp only [kd, kd3, kw_F]; rw [if_neg (by omega), if_neg (by omega), if_neg (by omega)]
  | 4 => rfl
  | 5 => simp only [kd, kd5, kw_F]; rw [if_neg (by omega), if_neg (by omega), if_neg (by omega), if_neg (by omega), if_neg (by omega), if_neg (by omega), if_neg (by omega), if_neg (by omega)]
  | 6 => rfl
  | k + 7 => rfl
theorem kr_pbeat {u : Nat} {v : Int32} (hW : kW c R m A h) (hu : u < kr c) (hd : decode (xt_code y) pc = .ok (.putfield i, 3)) (hf : xm_okF (xt_own y) i 2 2) (K : ∀ h' : xm_H, kW (kw c 18 u v) R m A h' → h'.2 = h.2 → xm_S g d y (pc + 3, ls, st) h' Q) : xm_S g d y (pc, ls, .int v :: .ref (A 2 u) :: st) h Q := by
  refine xr_putf hd hf (hW.rnr hu) rfl rfl rfl ?_
  exact K _ (hW.put (k0 := 2) (i0 := u) hu rfl (by simp [kd, kd2, kw_F, List.set]) (kd_other_u (by omega))) rfl
theorem kr_phasN {u : Nat} (hW : kW c R m A h) (hu : u < kr c) (hd : decode (xt_code y) pc = .ok (.putfield i, 3)) (hf : xm_okF (xt_own y) i 2 3) (K : ∀ h' : xm_H, kW (kw c 19 u (-1)) R m A h' → h'.2 = h.2 → xm_S g d y (pc + 3, ls, st) h' Q) : xm_S g d y (pc, ls, .null :: .ref (A 2 u) :: st) h Q := by
  refine xr_putf hd hf (hW.rnr hu) rfl rfl rfl ?_
  exact K _ (hW.put (k0 := 2) (i0 := u) hu rfl (by simp [kd, kd2, kw_F, khx, va_rf, List.set]) (kd_other_u (by omega))) rfl
theorem khx_nI {x : Nat} (hx : x < 2 ^ 31) : khx (nI x) = some x := by
  have h1 : ¬ nI x = -1 := fun e => by
    have h2 := nI_toInt hx
    rw [e] at h2
    have h3 : (-1 : Int32).toInt = -1 := by decide
    omega
  unfold khx
  rw [if_neg h1, nI_clamp hx]
theorem kr_phas {u x : Nat} (hW : kW c R m A h) (hu : u < kr c) (hx : x < 2 ^ 31) (hd : decode (xt_code y) pc = .ok (.putfield i, 3)) (hf : xm_okF (xt_own y) i 2 3) (K : ∀ h' : xm_H, kW (kw c 19 u (nI x)) R m A h' → h'.2 = h.2 → xm_S g d y (pc + 3, ls, st) h' Q) : xm_S g d y (pc, ls, .ref (A 5 x) :: .ref (A 2 u) :: st) h Q := by
  refine xr_putf hd hf (hW.rnr hu) rfl rfl rfl ?_
  exact K _ (hW.put (k0 := 2) (i0 := u) hu rfl (by simp [kd, kd2, kw_F, khx_nI hx, va_rf, List.set]) (kd_other_u (by omega))) rfl
/-- a run's flag, a job's needs -/
theorem kr_pcan {r : Nat} {v : Int32} (hW : kW c R m A h) (hr : r < kq c) (hd : decode (xt_code y) pc = .ok (.putfield i, 3)) (hf : xm_okF (xt_own y) i 1 4) (hv : v = 1) (K : ∀ h' : xm_H, kW (kw c 8 r v) R m A h' → h'.2 = h.2 → xm_S g d y (pc + 3, ls, st) h' Q) : xm_S g d y (pc, ls, .int v :: .ref (A 3 r) :: st) h Q := by
  subst hv
  refine xr_putf hd hf (hW.run hr) rfl rfl rfl ?_
  refine K _ (hW.put (k0 := 3) (i0 := r) hr rfl (by simp [kd, kd3, kw_F, List.set]) (fun k i hn => ?_)) rfl
  match k with
  | 0 => rfl
  | 1 => simp [kd, kd1, kw_F]
  | 2 => simp [kd, kd2, kw_F]
  | 3 =>
    have hi : ¬ i = r := fun e => hn ⟨rfl, e⟩
    simp [kd, kd3, kw_F, hi]
  | 4 => rfl
  | 5 => simp [kd, kd5, kw_F]
  | 6 => rfl
  | k + 7 => rfl
theorem kr_pneed {j : Nat} {v : Int32} (hW : kW c R m A h) (hj : j < kj c) (hd : decode (xt_code y) pc = .ok (.putfield i, 3)) (hf : xm_okF (xt_own y) i 0 5) (K : ∀ h' : xm_H, kW (kw c 3 j v) R m A h' → h'.2 = h.2 → xm_S g d y (pc + 3, ls, st) h' Q) : xm_S g d y (pc, ls, .int v :: .ref (A 1 j) :: st) h Q := by
  refine xr_putf hd hf (hW.job hj) rfl rfl rfl ?_
  refine K _ (hW.put (k0 := 1) (i0 := j) hj rfl (by simp [kd, kd1, kw_F, List.set]) (fun k i hn => ?_)) rfl
  match k with
  | 0 => rfl
  | 1 =>
    have hi : ¬ i = j := fun e => hn ⟨rfl, e⟩
    simp [kd, kd1, kw_F, hi]
  | 2 => simp [kd, kd2, kw_F]
  | 3 => simp [kd, kd3, kw_F]
  | 4 => rfl
  | 5 => simp [kd, kd5, kw_F]
  | 6 => rfl
  | k + 7 => rfl
/-- elements of the class's arrays -/
theorem kr_tks {r j : Nat} {x : Int32} (hW : kW c R m A h) (hr : r < kq c) (hd : decode (xt_code y) pc = .ok (.aaload, 1)) (hx : x = nI j) (hj : j < kj c) (K : xm_S g d y (pc + 1, ls, .ref (A 5 (12 * r + j)) :: st) h Q) : xm_S g d y (pc, ls, .int x :: .ref (A 4 r) :: st) h Q := by
  subst hx
  have h1 := hW.2.2.1
  exact xr_aald (ty := .object "JobStates$Task") hd (hW.tks hr) rfl rfl (vp_in_nI hj (by omega)) (by show (if (nI j).toNatClampNeg < 12 then _ else _) = _; rw [nI_clamp (by omega), if_pos (by omega)]) K
theorem kr_runs {r : Nat} {x : Int32} (hW : kW c R m A h) (hd : decode (xt_code y) pc = .ok (.aaload, 1)) (hx : x = nI r) (hr : r < kq c) (K : xm_S g d y (pc + 1, ls, .ref (A 3 r) :: st) h Q) : xm_S g d y (pc, ls, .int x :: .ref (A 0 3) :: st) h Q := by
  subst hx
  have h1 := hW.2.2.2.2
  exact xr_aald (ty := .object "JobStates$Run") hd hW.arun rfl rfl (vp_in_nI (by omega) (by omega)) (by rw [nI_clamp (by omega), if_pos hr]; rfl) K
theorem kr_rnrs {u : Nat} {x : Int32} (hW : kW c R m A h) (hd : decode (xt_code y) pc = .ok (.aaload, 1)) (hx : x = nI u) (hu : u < kr c) (K : xm_S g d y (pc + 1, ls, .ref (A 2 u) :: st) h Q) : xm_S g d y (pc, ls, .int x :: .ref (A 0 2) :: st) h Q := by
  subst hx
  have h1 := hW.2.2.2.1
  exact xr_aald (ty := .object "JobStates$Runner") hd hW.arnr rfl rfl (vp_in_nI (by omega) (by omega)) (by rw [nI_clamp (by omega), if_pos hu]; rfl) K
theorem kr_jobs {j : Nat} {x : Int32} (hW : kW c R m A h) (hd : decode (xt_code y) pc = .ok (.aaload, 1)) (hx : x = nI j) (hj : j < kj c) (K : xm_S g d y (pc + 1, ls, .ref (A 1 j) :: st) h Q) : xm_S g d y (pc, ls, .int x :: .ref (A 0 1) :: st) h Q := by
  subst hx
  have h1 := hW.2.2.1
  exact xr_aald (ty := .object "JobStates$Job") hd hW.ajob rfl rfl (vp_in_nI (by omega) (by omega)) (by rw [nI_clamp (by omega), if_pos hj]; rfl) K
theorem km_len_lt (f : Nat) : km_len f < 2 ^ 31 := by
  unfold km_len
  by_cases h1 : f < 6
  · rw [if_pos h1]; decide
  · rw [if_neg h1]
    by_cases h2 : f < 9
    · rw [if_pos h2]; decide
    · rw [if_neg h2]
      by_cases h3 : f < 17
      · rw [if_pos h3]; decide
      · rw [if_neg h3]; decide
/-- the reference's arrays and fields -/
theorem kr_ild {f n : Nat} {x : Int32} (hW : kW c R m A h) (hf : f < 20) (ht : km_ty f = 0) (hd : decode (xt_code y) pc = .ok (.iaload, 1)) (hx : x = nI n) (hn : n < km_len f) (K : xm_S g d y (pc + 1, ls, .int (kF m f n) :: st) h Q) : xm_S g d y (pc, ls, .int x :: .ref (A 6 (f + 1)) :: st) h Q := by
  subst hx
  have hl := km_len_lt f
  exact xr_iald hd (hW.arr hf) (by rw [ht]; rfl) (vp_in_nI hn hl) (by rw [nI_clamp (by omega)]) K
theorem kr_zld {f n : Nat} {x : Int32} (hW : kW c R m A h) (hf : f < 20) (ht : km_ty f = 1) (hd : decode (xt_code y) pc = .ok (.baload, 1)) (hx : x = nI n) (hn : n < km_len f) (K : xm_S g d y (pc + 1, ls, .int (kF m f n) :: st) h Q) : xm_S g d y (pc, ls, .int x :: .ref (A 6 (f + 1)) :: st) h Q := by
  subst hx
  have hl := km_len_lt f
  exact xr_zald hd (hW.arr hf) (by rw [ht]; rfl) (vp_in_nI hn hl) (by rw [nI_clamp (by omega)]) K
theorem kd_other_m {f n : Nat} {v : Int32} (k i : Nat) (hn : ¬ (k = 6 ∧ i = f + 1)) : kd c R (kw m f n v) A k i = kd c R m A k i := by
  match k with
  | 0 => rfl
  | 1 => rfl
  | 2 => rfl
  | 3 => rfl
  | 4 => rfl
  | 5 => rfl
  | 6 =>
    match i with
    | 0 => rfl
    | i + 1 =>
      have hi : ¬ i = f := fun e => hn ⟨rfl, by rw [e]⟩
      simp [kd, kd6, kw_F, hi]
  | k + 7 => rfl
theorem kd_arr {f n : Nat} {v : Int32} (hn : n < km_len f) : kd c R (kw m f n v) A 6 (f + 1) = .inr (km_ty f, km_len f, updV (fun j => .int (kF m f j)) (nI n).toNatClampNeg (.int v)) := by
  have hl := km_len_lt f
  rw [nI_clamp (by omega)]
  simp only [kd, kd6, kw_F, updV]
  congr 3
  funext j
  by_cases hj : j = n
  · simp [hj, updV]
  · simp [hj, updV]
theorem kr_ist {f n : Nat} {x v : Int32} (hW : kW c R m A h) (hf : f < 20) (ht : km_ty f = 0) (hd : decode (xt_code y) pc = .ok (.iastore, 1)) (hx : x = nI n) (hn : n < km_len f) (K : ∀ h' : xm_H, kW c R (kw m f n v) A h' → h'.2 = h.2 → xm_S g d y (pc + 1, ls, st) h' Q) : xm_S g d y (pc, ls, .int v :: .int x :: .ref (A 6 (f + 1)) :: st) h Q := by
  subst hx
  refine xr_iast hd (hW.arr hf) (by rw [ht]; rfl) (vp_in_nI hn (km_len_lt f)) ?_
  exact K _ (hW.put (k0 := 6) (i0 := f + 1) (by show f + 1 < 21; omega) rfl (kd_arr hn) kd_other_m) rfl
theorem kr_zst {f n : Nat} {x v : Int32} (hW : kW c R m A h) (hf : f < 20) (ht : km_ty f = 1) (hd : decode (xt_code y) pc = .ok (.bastore, 1)) (hx : x = nI n) (hn : n < km_len f) (hv : v = 0 ∨ v = 1) (K : ∀ h' : xm_H, kW c R (kw m f n v) A h' → h'.2 = h.2 → xm_S g d y (pc + 1, ls, st) h' Q) : xm_S g d y (pc, ls, .int v :: .int x :: .ref (A 6 (f + 1)) :: st) h Q := by
  subst hx
  refine xr_zast hd (hW.arr hf) (by rw [ht]; rfl) (vp_in_nI hn (km_len_lt f)) (by rcases hv with rfl | rfl <;> rfl) ?_
  exact K _ (hW.put (k0 := 6) (i0 := f + 1) (by show f + 1 < 21; omega) rfl (kd_arr hn) kd_other_m) rfl
/-- a field of the reference that is a number -/
theorem kr_pm {k : Nat} {v : Int32} {m' : kS} (hW : kW c R m A h) (hd : decode (xt_code y) pc = .ok (.putfield i, 3)) (hf : xm_okF (xt_own y) i 5 k) (hk : k < 6) (he : kd6 m' A 0 = .inl (5, [.int 0, .int (kc m), .int (kl m), .int (nI (kj m)), .int (nI (kq m)), .int (nI (kr m)), .ref (A 6 1), .ref (A 6 2), .ref (A 6 3), .ref (A 6 4), .ref (A 6 5), .ref (A 6 6), .ref (A 6 7), .ref (A 6 8), .ref (A 6 9), .ref (A 6 10), .ref (A 6 11), .ref (A 6 12), .ref (A 6 13), .ref (A 6 14), .ref (A 6 15), .ref (A 6 16), .ref (A 6 17), .ref (A 6 18), .ref (A 6 19), .ref (A 6 20)].set k (.int v))) (hF : kF m' = kF m) (K : ∀ h' : xm_H, kW c R m' A h' → h'.2 = h.2 → xm_S g d y (pc + 3, ls, st) h' Q) : xm_S g d y (pc, ls, .int v :: .ref (A 6 0) :: st) h Q := by
  have hty : xt_ty 5 k = .int ∧ xt_fin 5 k = false := by
    rcases (show k = 0 ∨ k = 1 ∨ k = 2 ∨ k = 3 ∨ k = 4 ∨ k = 5 by omega) with rfl | rfl | rfl | rfl | rfl | rfl <;> exact ⟨rfl, rfl⟩
  refine xr_putf hd hf hW.ref hty.2 (by rw [hty.1]; rfl) (by rw [hty.1]; rfl) ?_
  refine K _ (hW.put (k0 := 6) (i0 := 0) (show 0 < 21 by decide) rfl he (fun k i hn => ?_)) rfl
  match k with
  | 0 => rfl
  | 1 => rfl
  | 2 => rfl
  | 3 => rfl
  | 4 => rfl
  | 5 => rfl
  | 6 =>
    match i with
    | 0 => exact absurd ⟨rfl, rfl⟩ hn
    | i + 1 => simp only [kd, kd6, hF]
  | k + 7 => rfl
end KRows
end
section
/-! numbers of 32 bits -/
theorem ti_m2 : (-2 : Int32).toInt = -2 := by decide
theorem ti_m1 : (-1 : Int32).toInt = -1 := by decide
theorem ti_0 : (0 : Int32).toInt = 0 := by decide
theorem ti_1 : (1 : Int32).toInt = 1 := by decide
theorem ti_2 : (2 : Int32).toInt = 2 := by decide
theorem ti_3 : (3 : Int32).toInt = 3 := by decide
theorem ti_4 : (4 : Int32).toInt = 4 := by decide
theorem ti_5 : (5 : Int32).toInt = 5 := by decide
theorem ti_6 : (6 : Int32).toInt = 6 := by decide
theorem ti_7 : (7 : Int32).toInt = 7 := by decide
theorem ti_8 : (8 : Int32).toInt = 8 := by decide
theorem ti_10 : (10 : Int32).toInt = 10 := by decide
theorem ti_12 : (12 : Int32).toInt = 12 := by decide
theorem ti_100 : (100 : Int32).toInt = 100 := by decide
theorem ti_1000 : (1000 : Int32).toInt = 1000 := by decide
theorem ti_eq {a b : Int32} : a = b ↔ a.toInt = b.toInt := Int32.toInt_inj.symm
theorem ki_nlt {a b : Int32} : ¬ a < b ↔ b ≤ a := by rw [Int32.lt_iff_toInt_lt, Int32.le_iff_toInt_le]; omega
theorem ki_nle {a b : Int32} : ¬ a ≤ b ↔ b < a := by rw [Int32.lt_iff_toInt_lt, Int32.le_iff_toInt_le]; omega
theorem ki_3 {a : Int32} : 3 ≤ a ↔ 2 < a := by rw [Int32.lt_iff_toInt_lt, Int32.le_iff_toInt_le, ti_3, ti_2]; omega
def kbi (p : Prop) [Decidable p] : Int32 := if p then 1 else 0
theorem kbi_t {p : Prop} [Decidable p] (h : p) : kbi p = 1 := if_pos h
theorem kbi_f {p : Prop} [Decidable p] (h : ¬ p) : kbi p = 0 := if_neg h
theorem kbi_1 {p : Prop} [Decidable p] : kbi p = 1 ↔ p := by
  unfold kbi
  split
  · exact ⟨fun _ => by assumption, fun _ => rfl⟩
  · exact ⟨fun h => absurd h (by decide), fun h => absurd h (by assumption)⟩
theorem kbi_0 {p : Prop} [Decidable p] : kbi p = 0 ↔ ¬ p := by
  unfold kbi
  split
  · exact ⟨fun h => absurd h (by decide), fun h => absurd (by assumption) h⟩
  · exact ⟨fun _ => by assumption, fun _ => rfl⟩
theorem kbi_b {p : Prop} [Decidable p] : kbi p = 0 ∨ kbi p = 1 := by
  unfold kbi
  split
  · exact Or.inr rfl
  · exact Or.inl rfl
theorem kbi_n {p : Prop} [Decidable p] : narrow .boolean (.int (kbi p)) = .int (kbi p) := by
  rcases kbi_b (p := p) with h | h <;> rw [h] <;> rfl
/-- 12 times the run, and the job -/
theorem kx_i {r j : Nat} : (12 : Int32) * nI r + nI j = nI (12 * r + j) := by
  rw [show (12 : Int32) = nI 12 from rfl, pk_mul, nI_add]
theorem kx_d {r j : Nat} (hj : j < 12) : (12 * r + j) / 12 = r := by omega
theorem kx_m {r j : Nat} (hj : j < 12) : (12 * r + j) % 12 = j := by omega
theorem kx_x {x : Nat} : 12 * (x / 12) + x % 12 = x := by omega
end
section
/-! the task's small methods -/
def k_ru (o : Option Nat) : Int32 := match o with
  | none => -1
  | some u => nI u
theorem s_isEnded {g : xm_G} {h : xm_H} {c m : kS} {R : Nat → Option Nat} {A : kA} (hW : kW c R m A h) {x : Nat} (hx : x < 12 * kq c ∧ x % 12 < kj c) : xm_S g 0 m_Tsk_isEnded (xm_entry m_Tsk_isEnded [.ref (A 5 x)]) h (xq_i fun v h' => v = kbi (2 < kF c 9 x) ∧ h' = h) := by
  show xm_S g 0 m_Tsk_isEnded (0, [some (.ref (A 5 x))], []) h _
  refine xr_aload_n d_Tsk_isEnded_0 rfl ?_
  refine xr_getf d_Tsk_isEnded_1 xf_3_9 (hW.tsk hx) rfl ?_
  refine xr_iconst (v := 3) d_Tsk_isEnded_4 rfl ?_
  refine xr_icmp_lt (tgt := 12) d_Tsk_isEnded_5 rfl (fun c5 => ?_) (fun c5 => ?_)
  · refine xr_iconst (v := 0) d_Tsk_isEnded_12 rfl ?_
    refine xr_ireturn d_Tsk_isEnded_13 rfl rfl rfl ?_
    refine ⟨_, rfl, ?_, rfl⟩
    first | exact (kbi_t (by first | assumption | (simp only [Int32.lt_iff_toInt_lt, Int32.le_iff_toInt_le, ti_eq, ti_m2, ti_m1, ti_0, ti_1, ti_2, ti_3, ti_4, ti_5, ti_6, ti_7, ti_8, ti_10, ti_12, ti_100, ti_1000] at *; omega))).symm | exact (kbi_f (by first | assumption | (simp only [Int32.lt_iff_toInt_lt, Int32.le_iff_toInt_le, ti_eq, ti_m2, ti_m1, ti_0, ti_1, ti_2, ti_3, ti_4, ti_5, ti_6, ti_7, ti_8, ti_10, ti_12, ti_100, ti_1000] at *; omega))).symm
  · refine xr_iconst (v := 1) d_Tsk_isEnded_8 rfl ?_
    refine xr_goto (tgt := 13) d_Tsk_isEnded_9 rfl ?_
    refine xr_ireturn d_Tsk_isEnded_13 rfl rfl rfl ?_
    refine ⟨_, rfl, ?_, rfl⟩
    first | exact (kbi_t (by first | assumption | (simp only [Int32.lt_iff_toInt_lt, Int32.le_iff_toInt_le, ti_eq, ti_m2, ti_m1, ti_0, ti_1, ti_2, ti_3, ti_4, ti_5, ti_6, ti_7, ti_8, ti_10, ti_12, ti_100, ti_1000] at *; omega))).symm | exact (kbi_f (by first | assumption | (simp only [Int32.lt_iff_toInt_lt, Int32.le_iff_toInt_le, ti_eq, ti_m2, ti_m1, ti_0, ti_1, ti_2, ti_3, ti_4, ti_5, ti_6, ti_7, ti_8, ti_10, ti_12, ti_100, ti_1000] at *; omega))).symm
theorem s_place {g : xm_G} {h : xm_H} {c m : kS} {R : Nat → Option Nat} {A : kA} (hW : kW c R m A h) {x : Nat} (hx : x < 12 * kq c ∧ x % 12 < kj c) : xm_S g 0 m_Tsk_place (xm_entry m_Tsk_place [.ref (A 5 x)]) h (xq_i fun v h' => v = nI x ∧ h' = h) := by
  show xm_S g 0 m_Tsk_place (0, [some (.ref (A 5 x))], []) h _
  refine xr_bipush (v := 12) d_Tsk_place_0 rfl ?_
  refine xr_aload_n d_Tsk_place_2 rfl ?_
  refine xr_getf d_Tsk_place_3 xf_3_41 (hW.tsk hx) rfl ?_
  refine xr_getf d_Tsk_place_6 xf_3_52 (hW.run (by omega)) rfl ?_
  refine xr_imul d_Tsk_place_9 ?_
  refine xr_aload_n d_Tsk_place_10 rfl ?_
  refine xr_getf d_Tsk_place_11 xf_3_45 (hW.tsk hx) rfl ?_
  refine xr_iadd d_Tsk_place_14 ?_
  refine xr_ireturn d_Tsk_place_15 rfl rfl rfl ?_
  exact ⟨_, rfl, by rw [kx_i, kx_x], rfl⟩
theorem s_isPastLimit {g : xm_G} {h : xm_H} {c m : kS} {R : Nat → Option Nat} {A : kA} (hW : kW c R m A h) {x : Nat} (hx : x < 12 * kq c ∧ x % 12 < kj c) {t : Int32} : xm_S g 0 m_Tsk_isPastLimit (xm_entry m_Tsk_isPastLimit [.ref (A 5 x), .int t]) h (xq_i fun v h' => v = kbi (0 < kF c 1 (x % 12) ∧ kF c 1 (x % 12) ≤ t - kF c 10 x) ∧ h' = h) := by
  show xm_S g 0 m_Tsk_isPastLimit (0, [some (.ref (A 5 x)), some (.int t)], []) h _
  refine xr_aload_n d_Tsk_isPastLimit_0 rfl ?_
  refine xr_getf d_Tsk_isPastLimit_1 xf_3_48 (hW.tsk hx) rfl ?_
  refine xr_getf d_Tsk_isPastLimit_4 xf_3_66 (hW.job hx.2) rfl ?_
  refine xr_if_le (tgt := 30) d_Tsk_isPastLimit_7 rfl (fun c7 => ?_) (fun c7 => ?_)
  · refine xr_iconst (v := 0) d_Tsk_isPastLimit_30 rfl ?_
    refine xr_ireturn d_Tsk_isPastLimit_31 rfl rfl rfl ?_
    refine ⟨_, rfl, ?_, rfl⟩
    first | exact (kbi_t ⟨ki_nle.mp (by assumption), ki_nlt.mp (by assumption)⟩).symm | exact (kbi_f (fun q => absurd q.1 (ki_nlt.mpr (by assumption)))).symm | exact (kbi_f (fun q => absurd q.2 (ki_nle.mpr (by assumption)))).symm
  · refine xr_iload_n d_Tsk_isPastLimit_10 rfl ?_
    refine xr_aload_n d_Tsk_isPastLimit_11 rfl ?_
    refine xr_getf d_Tsk_isPastLimit_12 xf_3_19 (hW.tsk hx) rfl ?_
    refine xr_isub d_Tsk_isPastLimit_15 ?_
    refine xr_aload_n d_Tsk_isPastLimit_16 rfl ?_
    refine xr_getf d_Tsk_isPastLimit_17 xf_3_48 (hW.tsk hx) rfl ?_
    refine xr_getf d_Tsk_isPastLimit_20 xf_3_66 (hW.job hx.2) rfl ?_
    refine xr_icmp_lt (tgt := 30) d_Tsk_isPastLimit_23 rfl (fun c23 => ?_) (fun c23 => ?_)
    · refine xr_iconst (v := 0) d_Tsk_isPastLimit_30 rfl ?_
      refine xr_ireturn d_Tsk_isPastLimit_31 rfl rfl rfl ?_
      refine ⟨_, rfl, ?_, rfl⟩
      first | exact (kbi_t ⟨ki_nle.mp (by assumption), ki_nlt.mp (by assumption)⟩).symm | exact (kbi_f (fun q => absurd q.1 (ki_nlt.mpr (by assumption)))).symm | exact (kbi_f (fun q => absurd q.2 (ki_nle.mpr (by assumption)))).symm
    · refine xr_iconst (v := 1) d_Tsk_isPastLimit_26 rfl ?_
      refine xr_goto (tgt := 31) d_Tsk_isPastLimit_27 rfl ?_
      refine xr_ireturn d_Tsk_isPastLimit_31 rfl rfl rfl ?_
      refine ⟨_, rfl, ?_, rfl⟩
      first | exact (kbi_t ⟨ki_nle.mp (by assumption), ki_nlt.mp (by assumption)⟩).symm | exact (kbi_f (fun q => absurd q.1 (ki_nlt.mpr (by assumption)))).symm | exact (kbi_f (fun q => absurd q.2 (ki_nle.mpr (by assumption)))).symm
theorem s_runnerNumber {g : xm_G} {h : xm_H} {c m : kS} {R : Nat → Option Nat} {A : kA} (hW : kW c R m A h) {x : Nat} (hx : x < 12 * kq c ∧ x % 12 < kj c) (hu : ∀ u, R x = some u → u < kr c) : xm_S g 0 m_Tsk_runnerNumber (xm_entry m_Tsk_runnerNumber [.ref (A 5 x)]) h (xq_i fun v h' => v = k_ru (R x) ∧ h' = h) := by
  show xm_S g 0 m_Tsk_runnerNumber (0, [some (.ref (A 5 x))], []) h _
  have ht := hW.tsk hx
  rcases hR : R x with _ | u
  · rw [hR] at ht
    refine xr_aload_n d_Tsk_runnerNumber_0 rfl ?_
    refine xr_getf d_Tsk_runnerNumber_1 xf_3_15 ht rfl ?_
    refine xr_ifnonnullN d_Tsk_runnerNumber_4 ?_
    refine xr_iconst (v := -1) d_Tsk_runnerNumber_7 rfl ?_
    refine xr_goto (tgt := 18) d_Tsk_runnerNumber_8 rfl ?_
    refine xr_ireturn d_Tsk_runnerNumber_18 rfl rfl rfl ?_
    exact ⟨_, rfl, rfl, rfl⟩
  · rw [hR] at ht
    refine xr_aload_n d_Tsk_runnerNumber_0 rfl ?_
    refine xr_getf d_Tsk_runnerNumber_1 xf_3_15 ht rfl ?_
    refine xr_ifnonnull (tgt := 11) d_Tsk_runnerNumber_4 rfl ?_
    refine xr_aload_n d_Tsk_runnerNumber_11 rfl ?_
    refine xr_getf d_Tsk_runnerNumber_12 xf_3_15 ht rfl ?_
    refine xr_getf d_Tsk_runnerNumber_15 xf_3_69 (hW.rnr (hu u hR)) rfl ?_
    refine xr_ireturn d_Tsk_runnerNumber_18 rfl rfl rfl ?_
    exact ⟨_, rfl, rfl, rfl⟩
/-- the runner that has the task has it no more -/
def k_lv (c : kS) (R : Nat → Option Nat) (x : Nat) : kS := match R x with
  | none => c
  | some u => kw c 19 u (-1)
theorem k_lv_1 (c : kS) (R : Nat → Option Nat) (x : Nat) : (k_lv c R x).1 = c.1 := by unfold k_lv; split <;> rfl
theorem k_lv_21 (c : kS) (R : Nat → Option Nat) (x : Nat) : (k_lv c R x).2.1 = c.2.1 := by unfold k_lv; split <;> rfl
theorem k_lv_F (c : kS) (R : Nat → Option Nat) (x : Nat) {a b : Nat} (h : a ≠ 19) : kF (k_lv c R x) a b = kF c a b := by
  unfold k_lv
  split
  · rfl
  · rw [kw_F, if_neg (fun q => h q.1)]
theorem k_lv_x {c : kS} {R : Nat → Option Nat} {x y : Nat} (h : y < 12 * kq c ∧ y % 12 < kj c) : y < 12 * kq (k_lv c R x) ∧ y % 12 < kj (k_lv c R x) := by
  have e := k_lv_1 c R x
  rw [show kq (k_lv c R x) = kq c from congrArg (fun z => z.2.2) e, show kj (k_lv c R x) = kj c from congrArg (fun z => z.1) e]
  exact h
theorem up1_id {R : Nat → Option Nat} {x : Nat} (h : R x = none) : up1 R x none = R := by
  funext a
  by_cases e : a = x
  · rw [e, up1_s, h]
  · rw [up1_n _ _ e]
theorem s_leave {g : xm_G} {h : xm_H} {c m : kS} {R : Nat → Option Nat} {A : kA} (hW : kW c R m A h) {x : Nat} (hx : x < 12 * kq c ∧ x % 12 < kj c) (hu : ∀ u, R x = some u → u < kr c) : xm_S g 0 m_Tsk_leaveRunner (xm_entry m_Tsk_leaveRunner [.ref (A 5 x)]) h (xq_v fun h' => kW (k_lv c R x) (up1 R x none) m A h' ∧ h'.2 = h.2) := by
  show xm_S g 0 m_Tsk_leaveRunner (0, [some (.ref (A 5 x))], []) h _
  have ht := hW.tsk hx
  rcases hR : R x with _ | u
  · rw [hR] at ht
    have hl : k_lv c R x = c := by unfold k_lv; rw [hR]
    refine xr_aload_n d_Tsk_leaveRunner_0 rfl ?_
    refine xr_getf d_Tsk_leaveRunner_1 xf_3_15 ht rfl ?_
    refine xr_ifnullN (tgt := 20) d_Tsk_leaveRunner_4 rfl ?_
    refine xr_return d_Tsk_leaveRunner_20 rfl rfl ?_
    exact ⟨rfl, by rw [hl, up1_id hR]; exact hW, rfl⟩
  · rw [hR] at ht
    have hl : k_lv c R x = kw c 19 u (-1) := by unfold k_lv; rw [hR]
    refine xr_aload_n d_Tsk_leaveRunner_0 rfl ?_
    refine xr_getf d_Tsk_leaveRunner_1 xf_3_15 ht rfl ?_
    refine xr_ifnull d_Tsk_leaveRunner_4 ?_
    refine xr_aload_n d_Tsk_leaveRunner_7 rfl ?_
    refine xr_getf d_Tsk_leaveRunner_8 xf_3_15 ht rfl ?_
    refine xr_null d_Tsk_leaveRunner_11 ?_
    refine kr_phasN hW (hu u hR) d_Tsk_leaveRunner_12 xf_3_72 (fun h1 hW he => ?_)
    refine xr_aload_n d_Tsk_leaveRunner_15 rfl ?_
    refine xr_null d_Tsk_leaveRunner_16 ?_
    refine kr_prunN hW hx d_Tsk_leaveRunner_17 xf_3_15 (fun h2 hW he2 => ?_)
    refine xr_return d_Tsk_leaveRunner_20 rfl rfl ?_
    exact ⟨rfl, by rw [hl]; exact hW, he2.trans he⟩
theorem s_finish {g : xm_G} {h : xm_H} {c m : kS} {R : Nat → Option Nat} {A : kA} (hW : kW c R m A h) {x : Nat} (hx : x < 12 * kq c ∧ x % 12 < kj c) (hu : ∀ u, R x = some u → u < kr c) {v : Int32} : xm_S g 1 m_Tsk_finish (xm_entry m_Tsk_finish [.ref (A 5 x), .int v]) h (xq_v fun h' => kW (kw (kw (k_lv c R x) 15 x v) 9 x 3) (up1 R x none) m A h' ∧ h'.2 = h.2) := by
  show xm_S g 1 m_Tsk_finish (0, [some (.ref (A 5 x)), some (.int v)], []) h _
  refine xr_aload_n d_Tsk_finish_0 rfl ?_
  refine xr_V0v d_Tsk_finish_1 xv_3_79 (hW.tsk hx) rfl (Nat.le_of_ble_eq_true rfl) (by decide) (s_leave hW hx hu) (fun h1 h9 => ?_)
  obtain ⟨hW, he0⟩ := h9
  have hx1 := k_lv_x (R := R) (x := x) hx
  refine xr_aload_n d_Tsk_finish_4 rfl ?_
  refine xr_iload_n d_Tsk_finish_5 rfl ?_
  refine kr_pt (f := 15) hW hx1 d_Tsk_finish_6 xf_3_25 (by decide) (fun h2 hW he1 => ?_)
  refine xr_aload_n d_Tsk_finish_9 rfl ?_
  refine xr_iconst (v := 3) d_Tsk_finish_10 rfl ?_
  refine kr_pt (f := 9) hW hx1 d_Tsk_finish_11 xf_3_9 (by decide) (fun h3 hW he2 => ?_)
  refine xr_return d_Tsk_finish_14 rfl rfl ?_
  exact ⟨rfl, hW, he2.trans (he1.trans he0)⟩
theorem s_failTry {g : xm_G} {h : xm_H} {c m : kS} {R : Nat → Option Nat} {A : kA} (hW : kW c R m A h) {x : Nat} (hx : x < 12 * kq c ∧ x % 12 < kj c) (hu : ∀ u, R x = some u → u < kr c) : xm_S g 1 m_Tsk_failTry (xm_entry m_Tsk_failTry [.ref (A 5 x)]) h (xq_v fun h' => kW (kw (kw (k_lv c R x) 12 x (kF c 12 x + 1)) 9 x (if kF c 2 (x % 12) < kF c 12 x + 1 then 4 else 1)) (up1 R x none) m A h' ∧ h'.2 = h.2) := by
  show xm_S g 1 m_Tsk_failTry (0, [some (.ref (A 5 x))], []) h _
  refine xr_aload_n d_Tsk_failTry_0 rfl ?_
  refine xr_V0v d_Tsk_failTry_1 xv_3_79 (hW.tsk hx) rfl (Nat.le_of_ble_eq_true rfl) (by decide) (s_leave hW hx hu) (fun h1 h9 => ?_)
  obtain ⟨hW, he0⟩ := h9
  have hx1 := k_lv_x (R := R) (x := x) hx
  refine xr_aload_n d_Tsk_failTry_4 rfl ?_
  refine xr_dup d_Tsk_failTry_5 rfl ?_
  refine xr_getf d_Tsk_failTry_6 xf_3_34 (hW.tsk hx1) rfl ?_
  refine xr_iconst (v := 1) d_Tsk_failTry_9 rfl ?_
  refine xr_iadd d_Tsk_failTry_10 ?_
  rw [k_lv_F c R x (by decide)]
  refine kr_pt (f := 12) hW hx1 d_Tsk_failTry_11 xf_3_34 (by decide) (fun h2 hW he1 => ?_)
  refine xr_aload_n d_Tsk_failTry_14 rfl ?_
  refine xr_aload_n d_Tsk_failTry_15 rfl ?_
  refine xr_getf d_Tsk_failTry_16 xf_3_34 (hW.tsk hx1) rfl ?_
  refine xr_aload_n d_Tsk_failTry_19 rfl ?_
  refine xr_getf d_Tsk_failTry_20 xf_3_48 (hW.tsk hx1) rfl ?_
  refine xr_getf d_Tsk_failTry_23 xf_3_82 (hW.job hx1.2) rfl ?_
  rw [kw_F, if_neg (fun q => absurd q.1 (by decide)), k_lv_F c R x (by decide), kw_F, if_pos ⟨rfl, rfl⟩]
  refine xr_icmp_gt (tgt := 33) d_Tsk_failTry_26 rfl (fun c26 => ?_) (fun c26 => ?_)
  · refine xr_iconst (v := 4) d_Tsk_failTry_33 rfl ?_
    refine kr_pt (f := 9) hW hx1 d_Tsk_failTry_34 xf_3_9 (by decide) (fun h3 hW he2 => ?_)
    refine xr_return d_Tsk_failTry_37 rfl rfl ?_
    exact ⟨rfl, by first | (rw [if_pos c26]; exact hW) | (rw [if_neg c26]; exact hW), he2.trans (he1.trans he0)⟩
  · refine xr_iconst (v := 1) d_Tsk_failTry_29 rfl ?_
    refine xr_goto (tgt := 34) d_Tsk_failTry_30 rfl ?_
    refine kr_pt (f := 9) hW hx1 d_Tsk_failTry_34 xf_3_9 (by decide) (fun h3 hW he2 => ?_)
    refine xr_return d_Tsk_failTry_37 rfl rfl ?_
    exact ⟨rfl, by first | (rw [if_pos c26]; exact hW) | (rw [if_neg c26]; exact hW), he2.trans (he1.trans he0)⟩
theorem s_loseRunner {g : xm_G} {h : xm_H} {c m : kS} {R : Nat → Option Nat} {A : kA} (hW : kW c R m A h) {x : Nat} (hx : x < 12 * kq c ∧ x % 12 < kj c) (hu : ∀ u, R x = some u → u < kr c) (h14 : ¬ kF c 14 x + 1 = 0) : xm_S g 1 m_Tsk_loseRunner (xm_entry m_Tsk_loseRunner [.ref (A 5 x)]) h (xq_v fun h' => kW (kw (kw (kw (k_lv c R x) 13 x (kF c 13 x + 1)) 9 x (if kF c 14 x = 0 then 1 else 4)) 14 x (kF c 14 x + 1)) (up1 R x none) m A h' ∧ h'.2 = h.2) := by
  show xm_S g 1 m_Tsk_loseRunner (0, [some (.ref (A 5 x))], []) h _
  refine xr_aload_n d_Tsk_loseRunner_0 rfl ?_
  refine xr_V0v d_Tsk_loseRunner_1 xv_3_79 (hW.tsk hx) rfl (Nat.le_of_ble_eq_true rfl) (by decide) (s_leave hW hx hu) (fun h1 h9 => ?_)
  obtain ⟨hW, he0⟩ := h9
  have hx1 := k_lv_x (R := R) (x := x) hx
  refine xr_aload_n d_Tsk_loseRunner_4 rfl ?_
  refine xr_dup d_Tsk_loseRunner_5 rfl ?_
  refine xr_getf d_Tsk_loseRunner_6 xf_3_31 (hW.tsk hx1) rfl ?_
  refine xr_iconst (v := 1) d_Tsk_loseRunner_9 rfl ?_
  refine xr_iadd d_Tsk_loseRunner_10 ?_
  rw [k_lv_F c R x (by decide)]
  refine kr_pt (f := 13) hW hx1 d_Tsk_loseRunner_11 xf_3_31 (by decide) (fun h2 hW he1 => ?_)
  refine xr_aload_n d_Tsk_loseRunner_14 rfl ?_
  refine xr_aload_n d_Tsk_loseRunner_15 rfl ?_
  refine xr_getf d_Tsk_loseRunner_16 xf_3_37 (hW.tsk hx1) rfl ?_
  rw [kw_F, if_neg (fun q => absurd q.1 (by decide)), k_lv_F c R x (by decide)]
  refine xr_if_eq (tgt := 26) d_Tsk_loseRunner_19 rfl (fun c19 => ?_) (fun c19 => ?_)
  · refine xr_iconst (v := 1) d_Tsk_loseRunner_26 rfl ?_
    refine kr_pt (f := 9) hW hx1 d_Tsk_loseRunner_27 xf_3_9 (by decide) (fun h3 hW he2 => ?_)
    refine xr_aload_n d_Tsk_loseRunner_30 rfl ?_
    refine xr_iconst (v := 1) d_Tsk_loseRunner_31 rfl ?_
    refine kr_plost (w := kF c 14 x + 1) hW hx1 d_Tsk_loseRunner_32 xf_3_37 (if_neg h14) (fun h4 hW he3 => ?_)
    refine xr_return d_Tsk_loseRunner_35 rfl rfl ?_
    have hz : kbz (kF c 14 x) = if kF c 14 x = 0 then 0 else 1 := rfl
    refine ⟨rfl, ?_, he3.trans (he2.trans (he1.trans he0))⟩
    by_cases h0 : kF c 14 x = 0
    · rw [if_pos h0] at hz ⊢
      first | exact hW | exact absurd hz c19
    · rw [if_neg h0] at hz ⊢
      first | exact hW | exact absurd (hz.symm.trans c19) (by decide)
  · refine xr_iconst (v := 4) d_Tsk_loseRunner_22 rfl ?_
    refine xr_goto (tgt := 27) d_Tsk_loseRunner_23 rfl ?_
    refine kr_pt (f := 9) hW hx1 d_Tsk_loseRunner_27 xf_3_9 (by decide) (fun h3 hW he2 => ?_)
    refine xr_aload_n d_Tsk_loseRunner_30 rfl ?_
    refine xr_iconst (v := 1) d_Tsk_loseRunner_31 rfl ?_
    refine kr_plost (w := kF c 14 x + 1) hW hx1 d_Tsk_loseRunner_32 xf_3_37 (if_neg h14) (fun h4 hW he3 => ?_)
    refine xr_return d_Tsk_loseRunner_35 rfl rfl ?_
    have hz : kbz (kF c 14 x) = if kF c 14 x = 0 then 0 else 1 := rfl
    refine ⟨rfl, ?_, he3.trans (he2.trans (he1.trans he0))⟩
    by_cases h0 : kF c 14 x = 0
    · rw [if_pos h0] at hz ⊢
      first | exact hW | exact absurd hz c19
    · rw [if_neg h0] at hz ⊢
      first | exact hW | exact absurd (hz.symm.trans c19) (by decide)
theorem s_waitAgain {g : xm_G} {h : xm_H} {c m : kS} {R : Nat → Option Nat} {A : kA} (hW : kW c R m A h) {x : Nat} (hx : x < 12 * kq c ∧ x % 12 < kj c) : xm_S g 0 m_Tsk_waitAgain (xm_entry m_Tsk_waitAgain [.ref (A 5 x)]) h (xq_v fun h' => kW (kw (kw (kw c 9 x 0) 12 x 0) 14 x 0) R m A h' ∧ h'.2 = h.2) := by
  show xm_S g 0 m_Tsk_waitAgain (0, [some (.ref (A 5 x))], []) h _
  refine xr_aload_n d_Tsk_waitAgain_0 rfl ?_
  refine xr_iconst (v := 0) d_Tsk_waitAgain_1 rfl ?_
  refine kr_pt (f := 9) hW hx d_Tsk_waitAgain_2 xf_3_9 (by decide) (fun h2 hW he1 => ?_)
  refine xr_aload_n d_Tsk_waitAgain_5 rfl ?_
  refine xr_iconst (v := 0) d_Tsk_waitAgain_6 rfl ?_
  refine kr_pt (f := 12) hW hx d_Tsk_waitAgain_7 xf_3_34 (by decide) (fun h3 hW he2 => ?_)
  refine xr_aload_n d_Tsk_waitAgain_10 rfl ?_
  refine xr_iconst (v := 0) d_Tsk_waitAgain_11 rfl ?_
  refine kr_plost (w := 0) hW hx d_Tsk_waitAgain_12 xf_3_37 rfl (fun h4 hW he3 => ?_)
  refine xr_return d_Tsk_waitAgain_15 rfl rfl ?_
  exact ⟨rfl, hW, he3.trans (he2.trans he1)⟩
theorem s_startOn {g : xm_G} {h : xm_H} {c m : kS} {R : Nat → Option Nat} {A : kA} (hW : kW c R m A h) {x : Nat} (hx : x < 12 * kq c ∧ x % 12 < kj c) {u : Nat} (hu : u < kr c) {t : Int32} : xm_S g 0 m_Tsk_startOn (xm_entry m_Tsk_startOn [.ref (A 5 x), .ref (A 2 u), .int t]) h (xq_v fun h' => kW (kw (kw (kw (kw (kw c 9 x 2) 10 x t) 11 x (kF c 11 x + 1)) 19 u (nI x)) 18 u t) (up1 R x (some u)) m A h' ∧ h'.2 = h.2) := by
  show xm_S g 0 m_Tsk_startOn (0, [some (.ref (A 5 x)), some (.ref (A 2 u)), some (.int t)], []) h _
  have hx9 : x < 120 := by have := hW.2.2.2.2; have := hx.1; omega
  refine xr_aload_n d_Tsk_startOn_0 rfl ?_
  refine xr_iconst (v := 2) d_Tsk_startOn_1 rfl ?_
  refine kr_pt (f := 9) hW hx d_Tsk_startOn_2 xf_3_9 (by decide) (fun h2 hW he1 => ?_)
  refine xr_aload_n d_Tsk_startOn_5 rfl ?_
  refine xr_iload_n d_Tsk_startOn_6 rfl ?_
  refine kr_pt (f := 10) hW hx d_Tsk_startOn_7 xf_3_19 (by decide) (fun h3 hW he2 => ?_)
  refine xr_aload_n d_Tsk_startOn_10 rfl ?_
  refine xr_dup d_Tsk_startOn_11 rfl ?_
  refine xr_getf d_Tsk_startOn_12 xf_3_28 (hW.tsk hx) rfl ?_
  refine xr_iconst (v := 1) d_Tsk_startOn_15 rfl ?_
  refine xr_iadd d_Tsk_startOn_16 ?_
  rw [kw_F, if_neg (fun q => absurd q.1 (by decide)), kw_F, if_neg (fun q => absurd q.1 (by decide))]
  refine kr_pt (f := 11) hW hx d_Tsk_startOn_17 xf_3_28 (by decide) (fun h4 hW he3 => ?_)
  refine xr_aload_n d_Tsk_startOn_20 rfl ?_
  refine xr_aload_n d_Tsk_startOn_21 rfl ?_
  refine kr_prun hW hx d_Tsk_startOn_22 xf_3_15 (fun h5 hW he4 => ?_)
  refine xr_aload_n d_Tsk_startOn_25 rfl ?_
  refine xr_aload_n d_Tsk_startOn_26 rfl ?_
  refine kr_phas hW hu (by omega) d_Tsk_startOn_27 xf_3_72 (fun h6 hW he5 => ?_)
  refine xr_aload_n d_Tsk_startOn_30 rfl ?_
  refine xr_iload_n d_Tsk_startOn_31 rfl ?_
  refine kr_pbeat hW hu d_Tsk_startOn_32 xf_3_76 (fun h7 hW he6 => ?_)
  refine xr_return d_Tsk_startOn_35 rfl rfl ?_
  exact ⟨rfl, hW, he6.trans (he5.trans (he4.trans (he3.trans (he2.trans he1))))⟩
end
section
/-! WHAT THE CALLS DO TO THE NUMBERS, in one way for the class and the reference -/
abbrev k_bit (v : Int32) (k : Nat) : Prop := ¬ ((v >>> (nI k &&& 31)) &&& 1) = 0
/-- what has the task has it no more -/
def k_free (s : kS) (x : Nat) : kS := (s.1, s.2.1, fun f i => if f = 19 ∧ i < kr s ∧ kF s 19 i = nI x then -1 else kF s f i)
def k_fail (s : kS) (x : Nat) : kS := k_free (kw (kw s 12 x (kF s 12 x + 1)) 9 x (if kF s 2 (x % 12) < kF s 12 x + 1 then 4 else 1)) x
def k_lose (s : kS) (x : Nat) : kS := k_free (kw (kw (kw s 13 x (kF s 13 x + 1)) 14 x (kF s 14 x + 1)) 9 x (if 1 < kF s 14 x + 1 then 4 else 1)) x
abbrev k_over (s : kS) (r : Nat) : Prop := ∀ j, j < kj s → 2 < kF s 9 (12 * r + j)
def k_cnt (v : Int32) : Nat → Int32
  | 0 => 0
  | n + 1 => k_cnt v n + ((v >>> (nI n &&& 31)) &&& 1)
abbrev k_bad (s : kS) (r j : Nat) : Prop := ∀ k, k < j → k_bit (kF s 3 j) k → 2 < kF s 9 (12 * r + k) → kF s 9 (12 * r + k) = 3
abbrev k_all (s : kS) (r j : Nat) : Prop := ∀ k, k < j → k_bit (kF s 3 j) k → 2 < kF s 9 (12 * r + k)
def k_bec (s : kS) (r j : Nat) : Int32 :=
  if ¬ kF s 8 r = 0 ∧ kF s 4 j = 0 then 6 else if kF s 4 j = 0 ∧ ¬ k_bad s r j then 5 else if k_all s r j ∧ (kF s 5 j = 0 ∨ 1 < k_cnt (kF s 16 (12 * r + j)) 8) then 1 else 0
def k_set1 (s : kS) (x : Nat) : kS := if x % 12 < kj s ∧ kF s 9 x = 0 then kw s 9 x (k_bec s (x / 12) (x % 12)) else s
def k_settleN (s : kS) : Nat → kS
  | 0 => s
  | x + 1 => k_set1 (k_settleN s x) x
def k_settle (s : kS) : kS := k_settleN s (12 * kq s)
def k_stop1 (s : kS) (r j : Nat) : kS := if ¬ kF s 4 j = 0 ∨ 2 < kF s 9 (12 * r + j) then s else kw (k_free s (12 * r + j)) 9 (12 * r + j) 6
def k_stopN (s : kS) (r : Nat) : Nat → kS
  | 0 => s
  | j + 1 => k_stop1 (k_stopN s r j) r j
def k_stop (s : kS) (r : Nat) : kS := kw (k_stopN s r (kj s)) 8 r 1
theorem k_free_F (s : kS) (x a b : Nat) : kF (k_free s x) a b = if a = 19 ∧ b < kr s ∧ kF s 19 b = nI x then -1 else kF s a b := rfl
theorem k_free_n (s : kS) (x : Nat) {a b : Nat} (h : a ≠ 19) : kF (k_free s x) a b = kF s a b := by rw [k_free_F, if_neg (fun q => h q.1)]
theorem kS_ext {s t : kS} (h1 : s.1 = t.1) (h2 : s.2.1 = t.2.1) (h3 : ∀ f i, kF s f i = kF t f i) : s = t := by
  obtain ⟨a, b, F⟩ := s
  obtain ⟨a', b', F'⟩ := t
  cases h1
  cases h2
  have e : F = F' := funext fun f => funext fun i => h3 f i
  rw [e]
/-! what holds of the numbers and of who knows whom, at every call's end -/
def k_ok (s : kS) (x : Nat) : Prop := x < 12 * kq s ∧ x % 12 < kj s
def kI (s : kS) (R : Nat → Option Nat) : Prop :=
  (kj s ≤ 12 ∧ kr s ≤ 6 ∧ kq s ≤ 10) ∧
  (∀ x u, R x = some u → k_ok s x ∧ u < kr s ∧ kF s 19 u = nI x) ∧
  (∀ u, u < kr s → kF s 19 u = -1 ∨ ∃ x, R x = some u) ∧
  (∀ x, k_ok s x → (kF s 9 x = 2 ↔ R x ≠ none)) ∧
  (∀ x, ¬ k_ok s x → ∀ f, 9 ≤ f → f ≤ 16 → kF s f x = 0) ∧
  (∀ r, (kq s ≤ r → kF s 8 r = 0) ∧ (kj s ≤ r → kF s 3 r = 0)) ∧
  (∀ x, kF s 14 x = 0 ∨ kF s 14 x = 1 ∨ (kF s 14 x = 2 ∧ kF s 9 x = 4)) ∧
  (∀ j k, j ≤ k → k < 12 → ¬ k_bit (kF s 3 j) k) ∧
  (∀ x, ∃ a, a < 256 ∧ kF s 16 x = nI a)
theorem kI.x120 {s : kS} {R : Nat → Option Nat} (h : kI s R) {x : Nat} (hx : k_ok s x) : x < 120 := by
  have h1 := h.1.2.2
  have h2 := hx.1
  omega
theorem kI.inj {s : kS} {R : Nat → Option Nat} (h : kI s R) {x : Nat} (hx : x < 2 ^ 31) {u : Nat} (hu : u < kr s) (e : kF s 19 u = nI x) : R x = some u := by
  rcases h.2.2.1 u hu with e1 | ⟨x', e1⟩
  · rw [e1] at e
    have h2 := nI_toInt hx
    rw [← e, ti_m1] at h2
    omega
  · obtain ⟨h2, -, h3⟩ := h.2.1 x' u e1
    have h4 := h.x120 h2
    have h5 : x = x' := (nI_eq hx (by omega)).mp (e.symm.trans h3)
    rw [h5]; exact e1
/-- a task leaves its runner: both ways of saying it -/
theorem kI.lv {s : kS} {R : Nat → Option Nat} (h : kI s R) {x : Nat} (hx : x < 2 ^ 31) : k_lv s R x = k_free s x := by
  refine kS_ext (k_lv_1 _ _ _) (k_lv_21 _ _ _) (fun f i => ?_)
  rw [k_free_F]
  unfold k_lv
  cases hR : R x with
  | none =>
    dsimp only
    rw [if_neg]
    rintro ⟨-, h1, h2⟩
    rw [h.inj hx h1 h2] at hR
    cases hR
  | some u =>
    dsimp only
    obtain ⟨h1, h2, h3⟩ := h.2.1 x u hR
    rw [kw_F]
    by_cases e : f = 19 ∧ i = u
    · rw [if_pos e, if_pos ⟨e.1, by rw [e.2]; exact h2, by rw [e.2]; exact h3⟩]
    · rw [if_neg e, if_neg]
      rintro ⟨e1, e2, e3⟩
      have h4 := h.inj hx e2 e3
      rw [hR] at h4
      exact e ⟨e1, (Option.some.inj h4).symm⟩
theorem k_free_1 (s : kS) (x : Nat) : (k_free s x).1 = s.1 := rfl
abbrev k_anyf (s : kS) (r : Nat) : Prop := ¬ ∀ k, k < kj s → ¬ kF s 9 (12 * r + k) = 4
abbrev k_E (s : kS) (r j n : Nat) : Prop := ∀ k, k < n → k_bit (kF s 3 j) k → 2 < kF s 9 (12 * r + k)
abbrev k_B (s : kS) (r j n : Nat) : Prop := ∀ k, k < n → k_bit (kF s 3 j) k → 2 < kF s 9 (12 * r + k) → kF s 9 (12 * r + k) = 3
theorem kq_s {n : Nat} {P : Nat → Prop} : (∀ k, k < n + 1 → P k) ↔ (∀ k, k < n → P k) ∧ P n :=
  ⟨fun h => ⟨fun k hk => h k (by omega), h n (by omega)⟩, fun h k hk => by
    rcases Nat.lt_or_ge k n with q | q
    · exact h.1 k q
    · rw [show k = n by omega]; exact h.2⟩
theorem kbi_c {p q : Prop} [Decidable p] [Decidable q] (h : p ↔ q) : kbi p = kbi q := by
  by_cases hp : p
  · rw [kbi_t hp, kbi_t (h.mp hp)]
  · rw [kbi_f hp, kbi_f (fun z => hp (h.mpr z))]
theorem kbi_n0 {p : Prop} [Decidable p] (h : ¬ kbi p = 0) : p := Classical.byContradiction (fun q => h (kbi_0.mpr q))
theorem ki_c {α : Sort _} {p q : Prop} [Decidable p] [Decidable q] (h : p ↔ q) {x y : α} : (if p then x else y) = (if q then x else y) := by
  by_cases hp : p
  · rw [if_pos hp, if_pos (h.mp hp)]
  · rw [if_neg hp, if_neg (fun z => hp (h.mpr z))]
/-- the class's word of what a waiting task becomes -/
def k_saw (s : kS) (r j : Nat) : Int32 := if kF s 4 j = 0 ∧ ¬ k_B s r j (kj s) then 5 else if k_E s r j (kj s) ∧ (kF s 5 j = 0 ∨ 1 < k_cnt (kF s 16 (12 * r + j)) 8) then 1 else 0
theorem kI.saw {s : kS} {R : Nat → Option Nat} (h : kI s R) {r j : Nat} (hj : j < kj s) (hc : ¬ (¬ kF s 8 r = 0 ∧ kF s 4 j = 0)) : k_saw s r j = k_bec s r j := by
  have h12 := h.1.1
  have hb : ∀ k, k < kj s → k_bit (kF s 3 j) k → k < j := fun k hk q => by
    rcases Nat.lt_or_ge k j with z | z
    · exact z
    · exact absurd q (h.2.2.2.2.2.2.2.1 j k z (by omega))
  have e1 : k_B s r j (kj s) ↔ k_bad s r j := ⟨fun q k hk => q k (by omega), fun q k hk b => q k (hb k hk b) b⟩
  have e2 : k_E s r j (kj s) ↔ k_all s r j := ⟨fun q k hk => q k (by omega), fun q k hk b => q k (hb k hk b) b⟩
  unfold k_saw k_bec
  rw [if_neg hc, ki_c (p := kF s 4 j = 0 ∧ ¬ k_B s r j (kj s)) (q := kF s 4 j = 0 ∧ ¬ k_bad s r j) ⟨fun q => ⟨q.1, fun z => q.2 (e1.mpr z)⟩, fun q => ⟨q.1, fun z => q.2 (e1.mp z)⟩⟩]
  rw [ki_c (p := k_E s r j (kj s) ∧ (kF s 5 j = 0 ∨ 1 < k_cnt (kF s 16 (12 * r + j)) 8)) (q := k_all s r j ∧ (kF s 5 j = 0 ∨ 1 < k_cnt (kF s 16 (12 * r + j)) 8)) ⟨fun q => ⟨e2.mp q.1, q.2⟩, fun q => ⟨e2.mpr q.1, q.2⟩⟩]
end
section
/-! what holds goes on holding -/
theorem k_ok_eq {s s' : kS} (h : s'.1 = s.1) (x : Nat) : k_ok s' x = k_ok s x := by
  unfold k_ok
  rw [show kq s' = kq s from congrArg (fun z => z.2.2) h, show kj s' = kj s from congrArg (fun z => z.1) h]
theorem kI.step {s s' : kS} {R R' : Nat → Option Nat} (h : kI s R) (h1 : s'.1 = s.1)
    (hR : ∀ x u, R' x = some u → k_ok s x ∧ u < kr s ∧ kF s' 19 u = nI x) (hU : ∀ u, u < kr s → kF s' 19 u = -1 ∨ ∃ x, R' x = some u)
    (h9 : ∀ x, k_ok s x → (kF s' 9 x = 2 ↔ R' x ≠ none)) (hz : ∀ x, ¬ k_ok s x → ∀ f, 9 ≤ f → f ≤ 16 → kF s' f x = kF s f x) (h8 : ∀ r, kq s ≤ r → kF s' 8 r = kF s 8 r)
    (h14 : ∀ x, kF s' 14 x = 0 ∨ kF s' 14 x = 1 ∨ (kF s' 14 x = 2 ∧ kF s' 9 x = 4)) (h3 : ∀ j, kF s' 3 j = kF s 3 j) (h16 : ∀ x, ∃ a, a < 256 ∧ kF s' 16 x = nI a) : kI s' R' := by
  have e1 : kj s' = kj s := congrArg (fun z => z.1) h1
  have e2 : kr s' = kr s := congrArg (fun z => z.2.1) h1
  have e3 : kq s' = kq s := congrArg (fun z => z.2.2) h1
  obtain ⟨a1, a2, a3, a4, a5, a6, a7, a8, a9⟩ := h
  refine ⟨by rw [e1, e2, e3]; exact a1, fun x u hx => ?_, fun u hu => hU u (by rw [← e2]; exact hu), fun x hx => h9 x (by rw [← k_ok_eq h1]; exact hx), fun x hx f f1 f2 => ?_, fun r => ⟨fun hr => ?_, fun hr => by rw [h3]; exact (a6 r).2 (by rw [← e1]; exact hr)⟩, h14, fun j k q1 q2 => by rw [h3]; exact a8 j k q1 q2, h16⟩
  · rw [k_ok_eq h1, e2]; exact hR x u hx
  · rw [k_ok_eq h1] at hx
    rw [hz x hx f f1 f2]; exact a5 x hx f f1 f2
  · rw [e3] at hr
    rw [h8 r hr]; exact (a6 r).1 hr
/-- the links behind a task that left its runner -/
theorem kI.frR {s : kS} {R : Nat → Option Nat} (h : kI s R) {x : Nat} (hx : x < 2 ^ 31) {y u : Nat} (e : up1 R x none y = some u) : k_ok s y ∧ u < kr s ∧ kF (k_free s x) 19 u = nI y := by
  by_cases hy : y = x
  · rw [hy, up1_s] at e; cases e
  · rw [up1_n _ _ hy] at e
    obtain ⟨h1, h2, h3⟩ := h.2.1 y u e
    refine ⟨h1, h2, ?_⟩
    rw [k_free_F, if_neg, h3]
    rintro ⟨-, -, h4⟩
    have h5 := h.x120 h1
    exact hy ((nI_eq (by omega) hx).mp (h3.symm.trans h4))
theorem kI.frU {s : kS} {R : Nat → Option Nat} (h : kI s R) {x : Nat} (hx : x < 2 ^ 31) {u : Nat} (hu : u < kr s) : kF (k_free s x) 19 u = -1 ∨ ∃ y, up1 R x none y = some u := by
  rw [k_free_F]
  by_cases e : kF s 19 u = nI x
  · exact Or.inl (if_pos ⟨rfl, hu, e⟩)
  · rw [if_neg (fun q => e q.2.2)]
    rcases h.2.2.1 u hu with q | ⟨y, q⟩
    · exact Or.inl q
    · refine Or.inr ⟨y, ?_⟩
      rw [up1_n _ _ (fun z => e (by rw [← z]; exact (h.2.1 y u q).2.2)), q]
/-- a task that ends or is ready again: its runner has it no more, its state is v, which isn't 2; some of its other numbers change too -/
theorem kI.left {s s' : kS} {R : Nat → Option Nat} (h : kI s R) {x : Nat} (hx : k_ok s x) (h1 : s'.1 = s.1) (h19 : ∀ u, kF s' 19 u = kF (k_free s x) 19 u) (h9 : ∀ y, y ≠ x → kF s' 9 y = kF s 9 y) (h9x : kF s' 9 x ≠ 2)
    (ho : ∀ f, f ≠ 9 → f ≠ 19 → ∀ y, y ≠ x → kF s' f y = kF s f y) (h8 : ∀ r, kF s' 8 r = kF s 8 r) (h3 : ∀ j, kF s' 3 j = kF s 3 j) (h14 : kF s' 14 x = 0 ∨ kF s' 14 x = 1 ∨ (kF s' 14 x = 2 ∧ kF s' 9 x = 4)) (h16 : kF s' 16 x = kF s 16 x) : kI s' (up1 R x none) := by
  have hxx := h.x120 hx
  refine h.step h1 (fun y u e => ?_) (fun u hu => ?_) (fun y hy => ?_) (fun y hy f f1 f2 => ?_) (fun r _ => h8 r) (fun y => ?_) h3 (fun y => ?_)
  · rw [h19]; exact h.frR (by omega) e
  · rw [h19]; exact h.frU (by omega) hu
  · by_cases e : y = x
    · rw [e, up1_s]
      exact ⟨fun q => absurd q h9x, fun q => absurd rfl q⟩
    · rw [h9 y e, up1_n _ _ e]; exact h.2.2.2.1 y hy
  · have e : y ≠ x := fun z => hy (by rw [z]; exact hx)
    by_cases g : f = 9
    · rw [g]; exact h9 y e
    · exact ho f g (by omega) y e
  · by_cases e : y = x
    · rw [e]; exact h14
    · rw [ho 14 (by decide) (by decide) y e, h9 y e]; exact h.2.2.2.2.2.2.1 y
  · by_cases e : y = x
    · rw [e, h16]; exact h.2.2.2.2.2.2.2.2 x
    · rw [ho 16 (by decide) (by decide) y e]; exact h.2.2.2.2.2.2.2.2 y
theorem k_14a {s : kS} {R : Nat → Option Nat} (h : kI s R) {x : Nat} (h4 : ¬ kF s 9 x = 4) : kF s 14 x = 0 ∨ kF s 14 x = 1 := by
  rcases h.2.2.2.2.2.2.1 x with q | q | q
  · exact Or.inl q
  · exact Or.inr q
  · exact absurd q.2 h4
/-- a task is cancelled -/
theorem kI.cancel {s : kS} {R : Nat → Option Nat} (h : kI s R) {x : Nat} (hx : k_ok s x) (hn : ¬ 2 < kF s 9 x) : kI (kw (k_free s x) 9 x 6) (up1 R x none) := by
  have h4 : ¬ kF s 9 x = 4 := fun e => hn (by rw [e]; decide)
  refine h.left hx rfl (fun u => rfl) (fun y hy => ?_) (by rw [kw_F, if_pos ⟨rfl, rfl⟩]; decide) (fun f f1 f2 y hy => ?_) (fun r => ?_) (fun j => ?_) ?_ ?_
  · rw [kw_F, if_neg (fun q => hy q.2), k_free_n _ _ (by decide)]
  · rw [kw_F, if_neg (fun q => f1 q.1), k_free_n _ _ f2]
  · rw [kw_F, if_neg (fun q => absurd q.1 (by decide)), k_free_n _ _ (by decide)]
  · rw [kw_F, if_neg (fun q => absurd q.1 (by decide)), k_free_n _ _ (by decide)]
  · rw [kw_F, if_neg (fun q => absurd q.1 (by decide)), k_free_n _ _ (by decide)]
    rcases k_14a h h4 with q | q
    · exact Or.inl q
    · exact Or.inr (Or.inl q)
  · rw [kw_F, if_neg (fun q => absurd q.1 (by decide)), k_free_n _ _ (by decide)]
/-- a task that doesn't run gets another state, which isn't to run -/
theorem kI.state {s : kS} {R : Nat → Option Nat} (h : kI s R) {x : Nat} {v : Int32} (hx : k_ok s x) (h0 : kF s 9 x = 0) (hv : v ≠ 2) : kI (kw s 9 x v) R := by
  have hn : R x = none := by
    cases hR : R x with
    | none => rfl
    | some u =>
      have h2 := (h.2.2.2.1 x hx).mpr (by rw [hR]; exact fun q => by cases q)
      rw [h0] at h2
      exact absurd h2 (by decide)
  have h4 : ¬ kF s 9 x = 4 := fun e => by rw [h0] at e; exact absurd e (by decide)
  refine h.step rfl (fun y u e => ?_) (fun u hu => ?_) (fun y hy => ?_) (fun y hy f f1 f2 => ?_) (fun r _ => ?_) (fun y => ?_) (fun j => ?_) (fun y => ?_)
  · rw [kw_F, if_neg (fun q => absurd q.1 (by decide))]; exact h.2.1 y u e
  · rw [kw_F, if_neg (fun q => absurd q.1 (by decide))]; exact h.2.2.1 u hu
  · rw [kw_F]
    by_cases e : y = x
    · rw [if_pos ⟨rfl, e⟩, e, hn]
      exact ⟨fun q => absurd q hv, fun q => absurd rfl q⟩
    · rw [if_neg (fun q => e q.2)]; exact h.2.2.2.1 y hy
  · rw [kw_F, if_neg (fun q => hy (by rw [q.2]; exact hx))]
  · rw [kw_F, if_neg (fun q => absurd q.1 (by decide))]
  · rw [kw_F, if_neg (fun q => absurd q.1 (by decide)), kw_F]
    by_cases e : y = x
    · rw [e, if_pos ⟨rfl, rfl⟩]
      rcases k_14a h h4 with q | q
      · exact Or.inl q
      · exact Or.inr (Or.inl q)
    · rw [if_neg (fun q => e q.2)]; exact h.2.2.2.2.2.2.1 y
  · rw [kw_F, if_neg (fun q => absurd q.1 (by decide))]
  · rw [kw_F, if_neg (fun q => absurd q.1 (by decide))]; exact h.2.2.2.2.2.2.2.2 y
/-- a number that no link hangs on -/
theorem kI.other {s : kS} {R : Nat → Option Nat} (h : kI s R) {f i : Nat} {v : Int32} (hf : f = 0 ∨ f = 1 ∨ f = 2 ∨ f = 4 ∨ f = 5 ∨ f = 6 ∨ f = 7 ∨ f = 17 ∨ f = 18 ∨ (f = 8 ∧ i < kq s)) : kI (kw s f i v) R := by
  have hn : ∀ a, 9 ≤ a → a ≤ 16 → ∀ b, kF (kw s f i v) a b = kF s a b := fun a a1 a2 b => by rw [kw_F, if_neg (by omega)]
  refine h.step rfl (fun y u e => ?_) (fun u hu => ?_) (fun y hy => ?_) (fun y hy a a1 a2 => hn a a1 a2 y) (fun r hr => ?_) (fun y => ?_) (fun j => ?_) (fun y => ?_)
  · rw [kw_F, if_neg (by omega)]; exact h.2.1 y u e
  · rw [kw_F, if_neg (by omega)]; exact h.2.2.1 u hu
  · rw [hn 9 (by omega) (by omega)]; exact h.2.2.2.1 y hy
  · rw [kw_F, if_neg (by omega)]
  · rw [hn 14 (by omega) (by omega), hn 9 (by omega) (by omega)]; exact h.2.2.2.2.2.2.1 y
  · rw [kw_F, if_neg (by omega)]
  · rw [hn 16 (by omega) (by omega)]; exact h.2.2.2.2.2.2.2.2 y
/-- what a waiting task becomes isn't to run -/
theorem k_bec_2 (s : kS) (r j : Nat) : k_bec s r j ≠ 2 := by
  unfold k_bec
  split
  · decide
  · split
    · decide
    · split <;> decide
end
section
/-! what holds, through the calls' loops -/
theorem k_stop1_1 (s : kS) (r j : Nat) : (k_stop1 s r j).1 = s.1 := by unfold k_stop1; split <;> rfl
theorem k_stopN_1 (s : kS) (r : Nat) : ∀ n, (k_stopN s r n).1 = s.1
  | 0 => rfl
  | n + 1 => (k_stop1_1 _ _ _).trans (k_stopN_1 s r n)
theorem k_set1_1 (s : kS) (x : Nat) : (k_set1 s x).1 = s.1 := by unfold k_set1; split <;> rfl
theorem k_settleN_1 (s : kS) : ∀ n, (k_settleN s n).1 = s.1
  | 0 => rfl
  | n + 1 => (k_set1_1 _ _).trans (k_settleN_1 s n)
theorem k_stop1_c (s : kS) (r j : Nat) : k_stop1 (kw s 8 r 1) r j = kw (k_stop1 s r j) 8 r 1 := by
  have e4 : kF (kw s 8 r 1) 4 j = kF s 4 j := by rw [kw_F, if_neg (fun q => absurd q.1 (by decide))]
  have e9 : kF (kw s 8 r 1) 9 (12 * r + j) = kF s 9 (12 * r + j) := by rw [kw_F, if_neg (fun q => absurd q.1 (by decide))]
  unfold k_stop1
  rw [e4, e9]
  by_cases h : ¬ kF s 4 j = 0 ∨ 2 < kF s 9 (12 * r + j)
  · rw [if_pos h, if_pos h]
  · rw [if_neg h, if_neg h]
    refine kS_ext rfl rfl (fun f i => ?_)
    simp only [kw_F, k_free_F]
    by_cases a : f = 9 ∧ i = 12 * r + j
    · obtain ⟨rfl, rfl⟩ := a; simp
    · by_cases b : f = 8 ∧ i = r
      · obtain ⟨rfl, rfl⟩ := b; simp
      · simp [a, b]; rfl
theorem k_stop_c (s : kS) (r : Nat) : ∀ n, k_stopN (kw s 8 r 1) r n = kw (k_stopN s r n) 8 r 1
  | 0 => rfl
  | n + 1 => by
    show k_stop1 (k_stopN (kw s 8 r 1) r n) r n = _
    rw [k_stop_c s r n, k_stop1_c]
    rfl
/-- no waiting task of a cancelled run is one that doesn't always run -/
def kI8 (s : kS) : Prop := ∀ x, k_ok s x → kF s 9 x = 0 → ¬ (¬ kF s 8 (x / 12) = 0 ∧ kF s 4 (x % 12) = 0)
theorem k_set1_F (s : kS) (x : Nat) {a b : Nat} (h : ¬ (a = 9 ∧ b = x)) : kF (k_set1 s x) a b = kF s a b := by
  unfold k_set1
  split
  · rw [kw_F, if_neg h]
  · rfl
theorem kI8.set {s : kS} (h : kI8 s) (x : Nat) : kI8 (k_set1 s x) := by
  intro y hy h0
  rw [k_ok_eq (k_set1_1 s x)] at hy
  rw [k_set1_F _ _ (fun q => absurd q.1 (by decide)), k_set1_F _ _ (fun q => absurd q.1 (by decide))]
  refine h y hy ?_
  by_cases e : y = x
  · unfold k_set1 at h0
    split at h0
    · rename_i q; rw [e]; exact q.2
    · exact h0
  · rw [k_set1_F _ _ (fun q => e q.2)] at h0
    exact h0
theorem kI.set {s : kS} {R : Nat → Option Nat} (h : kI s R) {x : Nat} (hx : x < 12 * kq s) : kI (k_set1 s x) R := by
  unfold k_set1
  split
  · rename_i q; exact h.state ⟨hx, q.1⟩ q.2 (k_bec_2 _ _ _)
  · exact h
theorem k_set1_id {s : kS} {x : Nat} (h : ¬ x % 12 < kj s) : k_set1 s x = s := by
  unfold k_set1
  rw [if_neg (fun q => h q.1)]
/-- the tail of a run's twelve places has no tasks -/
theorem k_settle_tail (s : kS) (r : Nat) (h12 : kj s ≤ 12) : ∀ n, kj s + n ≤ 12 → k_settleN s (12 * r + (kj s + n)) = k_settleN s (12 * r + kj s)
  | 0, _ => rfl
  | n + 1, hn => by
    show k_set1 (k_settleN s (12 * r + (kj s + n))) (12 * r + (kj s + n)) = _
    rw [k_set1_id, k_settle_tail s r h12 n (by omega)]
    rw [show kj (k_settleN s (12 * r + (kj s + n))) = kj s from congrArg (fun z => z.1) (k_settleN_1 s _)]
    omega
/-- done again: a run's failed and skipped tasks -/
abbrev k_re (s : kS) (x : Nat) : Prop := kF s 9 x = 4 ∨ kF s 9 x = 5
def k_ag1 (s : kS) (x : Nat) : kS := if k_re s x then kw (kw (kw s 9 x 0) 12 x 0) 14 x 0 else s
def k_agN (s : kS) (r : Nat) : Nat → kS
  | 0 => s
  | j + 1 => k_ag1 (k_agN s r j) (12 * r + j)
def k_agC (s : kS) (r : Nat) : Nat → Int32
  | 0 => 0
  | j + 1 => if k_re (k_agN s r j) (12 * r + j) then k_agC s r j + 1 else k_agC s r j
theorem k_ag1_1 (s : kS) (x : Nat) : (k_ag1 s x).1 = s.1 := by unfold k_ag1; split <;> rfl
theorem k_agN_1 (s : kS) (r : Nat) : ∀ n, (k_agN s r n).1 = s.1
  | 0 => rfl
  | n + 1 => (k_ag1_1 _ _).trans (k_agN_1 s r n)
theorem kI.again {s : kS} {R : Nat → Option Nat} (h : kI s R) {x : Nat} (hx : k_ok s x) (hr : k_re s x) : kI (kw (kw (kw s 9 x 0) 12 x 0) 14 x 0) R := by
  have hn : R x = none := by
    cases hR : R x with
    | none => rfl
    | some u =>
      have h2 := (h.2.2.2.1 x hx).mpr (by rw [hR]; exact fun q => by cases q)
      rcases hr with q | q <;> (rw [h2] at q; exact absurd q (by decide))
  have g : ∀ f y, kF (kw (kw (kw s 9 x 0) 12 x 0) 14 x 0) f y = if (f = 14 ∨ f = 12 ∨ f = 9) ∧ y = x then 0 else kF s f y := fun f y => by
    simp only [kw_F]
    by_cases e : y = x
    · by_cases a : f = 14
      · simp [a, e]
      · by_cases b : f = 12
        · simp [b, e]
        · by_cases d : f = 9
          · simp [d, e]
          · simp [a, b, d]
    · simp [e]
  refine h.step rfl (fun y u e => ?_) (fun u hu => ?_) (fun y hy => ?_) (fun y hy f f1 f2 => ?_) (fun r _ => ?_) (fun y => ?_) (fun j => ?_) (fun y => ?_)
  · rw [g, if_neg (by omega)]; exact h.2.1 y u e
  · rw [g, if_neg (by omega)]; exact h.2.2.1 u hu
  · rw [g]
    by_cases e : y = x
    · rw [if_pos ⟨Or.inr (Or.inr rfl), e⟩, e, hn]
      exact ⟨fun q => absurd q (by decide), fun q => absurd rfl q⟩
    · rw [if_neg (fun q => e q.2)]; exact h.2.2.2.1 y hy
  · rw [g, if_neg (fun q => hy (by rw [q.2]; exact hx))]
  · rw [g, if_neg (by omega)]
  · rw [g, g]
    by_cases e : y = x
    · rw [if_pos ⟨Or.inl rfl, e⟩]; exact Or.inl rfl
    · rw [if_neg (fun q => e q.2), if_neg (fun q => e q.2)]; exact h.2.2.2.2.2.2.1 y
  · rw [g, if_neg (by omega)]
  · rw [g, if_neg (by omega)]; exact h.2.2.2.2.2.2.2.2 y
/-- the artefacts of what a job needs -/
def k_art (s : kS) (r j : Nat) : Nat → Int32
  | 0 => 0
  | n + 1 => if k_bit (kF s 3 j) n then k_art s r j n ^^^ kF s 15 (12 * r + n) else k_art s r j n
theorem kI.art {s : kS} {R : Nat → Option Nat} (h : kI s R) {r j : Nat} : ∀ n, j + n ≤ 12 → k_art s r j (j + n) = k_art s r j j
  | 0, _ => rfl
  | n + 1, hn => by
    show (if k_bit (kF s 3 j) (j + n) then _ else _) = _
    rw [if_neg (h.2.2.2.2.2.2.2.1 j (j + n) (by omega) (by omega))]
    exact h.art n (by omega)
abbrev k_fit (s : kS) (u x : Nat) : Prop := kF s 9 x = 1 ∧ (kF s 0 (x % 12) &&& (kF s 17 u ^^^ (-1))) = 0
end
section
/-! what the calls answer -/
abbrev k_in (v : Int32) (n : Nat) : Prop := ¬ v < 0 ∧ ¬ nI n ≤ v
abbrev k_n (v : Int32) : Nat := v.toNatClampNeg
theorem k_in_of {r n : Nat} (h : r < n) (hn : n < 2 ^ 31) : k_in (nI r) n := ⟨nI_pos (by omega), nI_ge h hn⟩
theorem k_n_of {r n : Nat} (h : r < n) (hn : n < 2 ^ 31) : k_n (nI r) = r := nI_clamp (by omega)
theorem k_in_ex {v : Int32} {n : Nat} (hn : n < 2 ^ 31) (h : k_in v n) : ∃ r, r < n ∧ v = nI r := by
  rcases pk_ix v hn with q | q | q
  · exact absurd q h.1
  · exact absurd q h.2
  · exact q
def k_state (s : kS) (a b : Int32) : Int32 := if k_in a (kq s) ∧ k_in b (kj s) then kF s 9 (12 * k_n a + k_n b) else -1
def k_judge (s : kS) (r : Nat) : Int32 := if ¬ k_over s r then 0 else if ¬ kF s 8 r = 0 then 3 else if k_anyf s r then 2 else 1
def k_verd (s : kS) (a : Int32) : Int32 := if k_in a (kq s) then k_judge s (k_n a) else -1
def k_has (s : kS) (a : Int32) : Int32 := if k_in a (kr s) then kF s 19 (k_n a) else -1
def k_rofN (s : kS) (x : Nat) : Nat → Int32
  | 0 => -1
  | u + 1 => if kF s 19 u = nI x then nI u else k_rofN s x u
def k_rof (s : kS) (x : Nat) : Int32 := k_rofN s x (kr s)
def k_abt (s : kS) (r j : Nat) (w : Int32) : Int32 := if w = 0 then k_rof s (12 * r + j) else if w = 1 then kF s 11 (12 * r + j) else if w = 2 then kF s 13 (12 * r + j) else if w = 3 then kF s 15 (12 * r + j) else if w = 4 then k_art s r j j else 0
def k_about (s : kS) (a b w : Int32) : Int32 := if k_in a (kq s) ∧ k_in b (kj s) then k_abt s (k_n a) (k_n b) w else -1
theorem kI.rofN {s : kS} {R : Nat → Option Nat} (h : kI s R) {x : Nat} (hx : x < 2 ^ 31) : ∀ n, n ≤ kr s → (∀ u, R x = some u → n ≤ u) → k_rofN s x n = -1
  | 0, _, _ => rfl
  | n + 1, hn, hu => by
    show (if kF s 19 n = nI x then _ else _) = _
    rw [if_neg, h.rofN hx n (by omega) (fun u e => Nat.le_of_succ_le (hu u e))]
    intro e
    have := hu n (h.inj hx (by omega) e)
    omega
theorem kI.rofS {s : kS} {R : Nat → Option Nat} (h : kI s R) {x u : Nat} (hx : x < 2 ^ 31) (hu : R x = some u) : ∀ n, u + 1 + n ≤ kr s → k_rofN s x (u + 1 + n) = nI u
  | 0, _ => by
    show (if kF s 19 u = nI x then _ else _) = _
    rw [if_pos (h.2.1 x u hu).2.2]
  | n + 1, hn => by
    show (if kF s 19 (u + 1 + n) = nI x then _ else _) = _
    rw [if_neg]
    · exact h.rofS hx hu n (by omega)
    · intro e
      have q := h.inj hx (by omega) e
      rw [hu] at q
      have := Option.some.inj q
      omega
theorem kI.rof {s : kS} {R : Nat → Option Nat} (h : kI s R) {x : Nat} (hx : x < 2 ^ 31) : k_rof s x = k_ru (R x) := by
  cases hR : R x with
  | none => exact h.rofN hx (kr s) (Nat.le_refl _) (fun u e => by rw [hR] at e; cases e)
  | some u =>
    have h1 := (h.2.1 x u hR).2.1
    have h2 := h.rofS hx hR (kr s - (u + 1)) (by omega)
    rw [show u + 1 + (kr s - (u + 1)) = kr s by omega] at h2
    exact h2
/-- what a call leaves behind on the class's side -/
def kQ (s' m : kS) (A : kA) (h h' : xm_H) : Prop := ∃ (R' : Nat → Option Nat) (A' : kA), kW s' R' m A' h' ∧ kI s' R' ∧ kI8 s' ∧ A' 0 0 = A 0 0 ∧ A' 6 0 = A 6 0 ∧ h'.2.1 ≤ h.2.1 + 14 ∧ h'.2.2 ≤ h.2.2 + 170
theorem kQ.of {s' m : kS} {A : kA} {h h' : xm_H} {R' : Nat → Option Nat} (hW : kW s' R' m A h') (hI : kI s' R') (h8 : kI8 s') (he : h'.2 = h.2) : kQ s' m A h h' := ⟨R', A, hW, hI, h8, rfl, rfl, by rw [he]; omega, by rw [he]; omega⟩
end
section
/-! tasks that end, fail, are lost; bits that are set -/
theorem k_bit_N {a k : Nat} (ha : a < 2 ^ 31) (hk : k < 31) : k_bit (nI a) k ↔ a / 2 ^ k % 2 = 1 := by
  have hs : ((nI k &&& 31).toBitVec.smod 32).toNat = k := by
    have : ∀ k, k < 31 → ((nI k &&& 31).toBitVec.smod 32).toNat = k := by decide +kernel
    exact this k hk
  have h1 : nI a >>> (nI k &&& 31) = nI (a / 2 ^ k) := pk_shrN ha _ k hs
  have h2 : a / 2 ^ k < 2 ^ 31 := Nat.lt_of_le_of_lt (Nat.div_le_self _ _) ha
  have h3 : nI (a / 2 ^ k) &&& 1 = nI (a / 2 ^ k % 2) := pk_andN (by omega) 1 (by decide)
  show ¬ (nI a >>> (nI k &&& 31)) &&& 1 = 0 ↔ _
  rw [h1, h3, show (0 : Int32) = nI 0 from rfl, nI_eq (by omega) (by decide)]
  omega
theorem kI.fail {s : kS} {R : Nat → Option Nat} (h : kI s R) {x : Nat} (hx : k_ok s x) (h2 : kF s 9 x = 2) : kI (k_fail s x) (up1 R x none) := by
  have h4 : ¬ kF s 9 x = 4 := fun e => by rw [h2] at e; exact absurd e (by decide)
  have g : ∀ f y, f ≠ 19 → kF (k_fail s x) f y = if f = 9 ∧ y = x then (if kF s 2 (x % 12) < kF s 12 x + 1 then 4 else 1) else if f = 12 ∧ y = x then kF s 12 x + 1 else kF s f y := fun f y hf => by
    unfold k_fail
    rw [k_free_n _ _ hf, kw_F, kw_F]
  refine h.left hx rfl (fun u => ?_) (fun y hy => ?_) ?_ (fun f f1 f2 y hy => ?_) (fun r => ?_) (fun j => ?_) ?_ ?_
  · unfold k_fail
    rw [k_free_F, k_free_F]
    simp only [kw_F]
    rfl
  · rw [g _ _ (by decide), if_neg (fun q => hy q.2), if_neg (fun q => hy q.2)]
  · rw [g _ _ (by decide), if_pos ⟨rfl, rfl⟩]; split <;> decide
  · rw [g _ _ f2, if_neg (fun q => hy q.2), if_neg (fun q => hy q.2)]
  · rw [g _ _ (by decide), if_neg (fun q => absurd q.1 (by decide)), if_neg (fun q => absurd q.1 (by decide))]
  · rw [g _ _ (by decide), if_neg (fun q => absurd q.1 (by decide)), if_neg (fun q => absurd q.1 (by decide))]
  · rw [g _ _ (by decide), if_neg (fun q => absurd q.1 (by decide)), if_neg (fun q => absurd q.1 (by decide))]
    rcases k_14a h h4 with q | q
    · exact Or.inl q
    · exact Or.inr (Or.inl q)
  · rw [g _ _ (by decide), if_neg (fun q => absurd q.1 (by decide)), if_neg (fun q => absurd q.1 (by decide))]
theorem kI.lose {s : kS} {R : Nat → Option Nat} (h : kI s R) {x : Nat} (hx : k_ok s x) (h2 : kF s 9 x = 2) : kI (k_lose s x) (up1 R x none) := by
  have h4 : ¬ kF s 9 x = 4 := fun e => by rw [h2] at e; exact absurd e (by decide)
  have g : ∀ f y, f ≠ 19 → kF (k_lose s x) f y = if f = 9 ∧ y = x then (if 1 < kF s 14 x + 1 then 4 else 1) else if f = 14 ∧ y = x then kF s 14 x + 1 else if f = 13 ∧ y = x then kF s 13 x + 1 else kF s f y := fun f y hf => by
    unfold k_lose
    rw [k_free_n _ _ hf, kw_F, kw_F, kw_F]
  refine h.left hx rfl (fun u => ?_) (fun y hy => ?_) ?_ (fun f f1 f2 y hy => ?_) (fun r => ?_) (fun j => ?_) ?_ ?_
  · unfold k_lose
    rw [k_free_F, k_free_F]
    simp only [kw_F]
    rfl
  · rw [g _ _ (by decide), if_neg (fun q => hy q.2), if_neg (fun q => hy q.2), if_neg (fun q => hy q.2)]
  · rw [g _ _ (by decide), if_pos ⟨rfl, rfl⟩]; split <;> decide
  · rw [g _ _ f2, if_neg (fun q => hy q.2), if_neg (fun q => hy q.2), if_neg (fun q => hy q.2)]
  · rw [g _ _ (by decide), if_neg (fun q => absurd q.1 (by decide)), if_neg (fun q => absurd q.1 (by decide)), if_neg (fun q => absurd q.1 (by decide))]
  · rw [g _ _ (by decide), if_neg (fun q => absurd q.1 (by decide)), if_neg (fun q => absurd q.1 (by decide)), if_neg (fun q => absurd q.1 (by decide))]
  · rw [g _ _ (by decide), if_neg (fun q => absurd q.1 (by decide)), if_pos ⟨rfl, rfl⟩, g _ _ (by decide), if_pos ⟨rfl, rfl⟩]
    rcases k_14a h h4 with q | q
    · rw [q]; exact Or.inr (Or.inl (by decide))
    · rw [q]; exact Or.inr (Or.inr (by decide))
  · rw [g _ _ (by decide), if_neg (fun q => absurd q.1 (by decide)), if_neg (fun q => absurd q.1 (by decide)), if_neg (fun q => absurd q.1 (by decide))]
/-- a task that ended well -/
def k_done (s : kS) (x : Nat) (v : Int32) : kS := kw (kw (k_free s x) 15 x v) 9 x 3
theorem kI.done {s : kS} {R : Nat → Option Nat} (h : kI s R) {x : Nat} {v : Int32} (hx : k_ok s x) (h2 : kF s 9 x = 2) : kI (k_done s x v) (up1 R x none) := by
  have h4 : ¬ kF s 9 x = 4 := fun e => by rw [h2] at e; exact absurd e (by decide)
  have g : ∀ f y, f ≠ 19 → kF (k_done s x v) f y = if f = 9 ∧ y = x then 3 else if f = 15 ∧ y = x then v else kF s f y := fun f y hf => by
    unfold k_done
    rw [kw_F, kw_F, k_free_n _ _ hf]
  refine h.left hx rfl (fun u => rfl) (fun y hy => ?_) ?_ (fun f f1 f2 y hy => ?_) (fun r => ?_) (fun j => ?_) ?_ ?_
  · rw [g _ _ (by decide), if_neg (fun q => hy q.2), if_neg (fun q => hy q.2)]
  · rw [g _ _ (by decide), if_pos ⟨rfl, rfl⟩]; decide
  · rw [g _ _ f2, if_neg (fun q => hy q.2), if_neg (fun q => hy q.2)]
  · rw [g _ _ (by decide), if_neg (fun q => absurd q.1 (by decide)), if_neg (fun q => absurd q.1 (by decide))]
  · rw [g _ _ (by decide), if_neg (fun q => absurd q.1 (by decide)), if_neg (fun q => absurd q.1 (by decide))]
  · rw [g _ _ (by decide), if_neg (fun q => absurd q.1 (by decide)), if_neg (fun q => absurd q.1 (by decide))]
    rcases k_14a h h4 with q | q
    · exact Or.inl q
    · exact Or.inr (Or.inl q)
  · rw [g _ _ (by decide), if_neg (fun q => absurd q.1 (by decide)), if_neg (fun q => absurd q.1 (by decide))]
/-- a task's change to a state that isn't to wait, leaves the flags' word as it was -/
theorem kI8.keep {s s' : kS} (h : kI8 s) (h1 : s'.1 = s.1) (h8 : ∀ r, kF s' 8 r = kF s 8 r) (h4 : ∀ j, kF s' 4 j = kF s 4 j) (h9 : ∀ y, kF s' 9 y = 0 → kF s 9 y = 0) : kI8 s' := by
  intro y hy h0
  rw [k_ok_eq h1] at hy
  rw [h8, h4]
  exact h y hy (h9 y h0)
theorem kI8.fail {s : kS} (h : kI8 s) (x : Nat) : kI8 (k_fail s x) := by
  refine h.keep rfl (fun r => ?_) (fun j => ?_) (fun y h0 => ?_)
  · unfold k_fail; rw [k_free_n _ _ (by decide), kw_F, if_neg (fun q => absurd q.1 (by decide)), kw_F, if_neg (fun q => absurd q.1 (by decide))]
  · unfold k_fail; rw [k_free_n _ _ (by decide), kw_F, if_neg (fun q => absurd q.1 (by decide)), kw_F, if_neg (fun q => absurd q.1 (by decide))]
  · unfold k_fail at h0
    rw [k_free_n _ _ (by decide), kw_F] at h0
    split at h0
    · split at h0 <;> exact absurd h0 (by decide)
    · rw [kw_F, if_neg (fun q => absurd q.1 (by decide))] at h0; exact h0
theorem kI8.lose {s : kS} (h : kI8 s) (x : Nat) : kI8 (k_lose s x) := by
  refine h.keep rfl (fun r => ?_) (fun j => ?_) (fun y h0 => ?_)
  · unfold k_lose; rw [k_free_n _ _ (by decide), kw_F, if_neg (fun q => absurd q.1 (by decide)), kw_F, if_neg (fun q => absurd q.1 (by decide)), kw_F, if_neg (fun q => absurd q.1 (by decide))]
  · unfold k_lose; rw [k_free_n _ _ (by decide), kw_F, if_neg (fun q => absurd q.1 (by decide)), kw_F, if_neg (fun q => absurd q.1 (by decide)), kw_F, if_neg (fun q => absurd q.1 (by decide))]
  · unfold k_lose at h0
    rw [k_free_n _ _ (by decide), kw_F] at h0
    split at h0
    · split at h0 <;> exact absurd h0 (by decide)
    · rw [kw_F, if_neg (fun q => absurd q.1 (by decide)), kw_F, if_neg (fun q => absurd q.1 (by decide))] at h0; exact h0
theorem kI8.done {s : kS} (h : kI8 s) (x : Nat) (v : Int32) : kI8 (k_done s x v) := by
  refine h.keep rfl (fun r => ?_) (fun j => ?_) (fun y h0 => ?_)
  · unfold k_done; rw [kw_F, if_neg (fun q => absurd q.1 (by decide)), kw_F, if_neg (fun q => absurd q.1 (by decide)), k_free_n _ _ (by decide)]
  · unfold k_done; rw [kw_F, if_neg (fun q => absurd q.1 (by decide)), kw_F, if_neg (fun q => absurd q.1 (by decide)), k_free_n _ _ (by decide)]
  · unfold k_done at h0
    rw [kw_F] at h0
    split at h0
    · exact absurd h0 (by decide)
    · rw [kw_F, if_neg (fun q => absurd q.1 (by decide)), k_free_n _ _ (by decide)] at h0; exact h0
/-- the class's order of writing is the reference's -/
theorem k_fail_c (s : kS) (x : Nat) : kw (kw (k_free s x) 12 x (kF s 12 x + 1)) 9 x (if kF s 2 (x % 12) < kF s 12 x + 1 then 4 else 1) = k_fail s x := by
  refine kS_ext rfl rfl (fun f i => ?_)
  unfold k_fail
  simp only [kw_F, k_free_F]
  by_cases a : f = 19
  · subst a; simp; rfl
  · simp [a]
theorem k_lose_c {s : kS} {x : Nat} (h14 : kF s 14 x = 0 ∨ kF s 14 x = 1) : kw (kw (kw (k_free s x) 13 x (kF s 13 x + 1)) 9 x (if kF s 14 x = 0 then 1 else 4)) 14 x (kF s 14 x + 1) = k_lose s x := by
  have e : (if kF s 14 x = 0 then (1 : Int32) else 4) = if 1 < kF s 14 x + 1 then 4 else 1 := by
    rcases h14 with q | q <;> rw [q] <;> rfl
  refine kS_ext rfl rfl (fun f i => ?_)
  unfold k_lose
  rw [e]
  simp only [kw_F, k_free_F]
  by_cases a : f = 19
  · subst a; simp; rfl
  · by_cases b : f = 14
    · subst b; simp
    · by_cases d : f = 9
      · subst d; simp
      · simp [a, b, d]
/-- a run that is stopped: those of its tasks that wait are ones that always run -/
theorem k_stop1_F (s : kS) (r j : Nat) {a b : Nat} (h1 : a ≠ 19) (h2 : ¬ (a = 9 ∧ b = 12 * r + j)) : kF (k_stop1 s r j) a b = kF s a b := by
  unfold k_stop1
  split
  · rfl
  · rw [kw_F, if_neg h2, k_free_n _ _ h1]
theorem k_stopN_F (s : kS) (r : Nat) {a b : Nat} (h1 : a ≠ 19) (h2 : a ≠ 9) : ∀ n, kF (k_stopN s r n) a b = kF s a b
  | 0 => rfl
  | n + 1 => (k_stop1_F _ r n h1 (fun q => h2 q.1)).trans (k_stopN_F s r h1 h2 n)
theorem k_stopN_9 (s : kS) (r : Nat) {x : Nat} : ∀ n, (∀ j, j < n → x ≠ 12 * r + j) → kF (k_stopN s r n) 9 x = kF s 9 x
  | 0, _ => rfl
  | n + 1, h => (k_stop1_F _ r n (by decide) (fun q => h n (by omega) q.2)).trans (k_stopN_9 s r n (fun j hj => h j (by omega)))
theorem k_stopN_0 (s : kS) (r : Nat) : ∀ n j, j < n → kF (k_stopN s r n) 9 (12 * r + j) = 0 → ¬ kF s 4 j = 0
  | 0, _, h, _ => absurd h (Nat.not_lt_zero _)
  | n + 1, j, h, h0 => by
    by_cases e : j = n
    · subst e
      have h0 : kF (k_stop1 (k_stopN s r j) r j) 9 (12 * r + j) = 0 := h0
      unfold k_stop1 at h0
      split at h0
      · rename_i q
        rcases q with q | q
        · rw [k_stopN_F s r (by decide) (by decide)] at q; exact q
        · rw [h0] at q; exact absurd q (by decide)
      · rw [kw_F, if_pos ⟨rfl, rfl⟩] at h0; exact absurd h0 (by decide)
    · have h0 : kF (k_stop1 (k_stopN s r n) r n) 9 (12 * r + j) = 0 := h0
      rw [k_stop1_F _ r n (by decide) (fun q => e (by omega))] at h0
      exact k_stopN_0 s r n j (by omega) h0
theorem kI8.stop {s : kS} (h : kI8 s) (h12 : kj s ≤ 12) (r : Nat) : kI8 (k_stop s r) := by
  intro x hx h0
  have e1 : (k_stop s r).1 = s.1 := k_stopN_1 s r (kj s)
  rw [k_ok_eq e1] at hx
  unfold k_stop at h0 ⊢
  rw [kw_F, if_neg (fun q => absurd q.1 (by decide))] at h0
  rw [kw_F, kw_F, if_neg (c := 4 = 8 ∧ x % 12 = r) (fun q => absurd q.1 (by decide)), k_stopN_F s r (by decide) (by decide), k_stopN_F s r (by decide) (by decide)]
  by_cases e : x / 12 = r
  · have hj := hx.2
    have hxe : x = 12 * r + x % 12 := by omega
    rw [hxe] at h0
    intro q
    exact k_stopN_0 s r (kj s) (x % 12) hj h0 q.2
  · rw [if_neg (fun q => e q.2)]
    rw [k_stopN_9 s r (kj s) (fun j hj q => e (by omega))] at h0
    exact h x hx h0
end
section
/-! the calls, as what they do and answer -/
def o_lost (s : kS) (t : Int32) : kS × Int32 := if t < 1 ∨ 100 < t then (s, 0) else ((s.1, (kc s, t), kF s), 1)
def o_beat (s : kS) (a : Int32) : kS × Int32 := if k_in a (kr s) ∧ ¬ kF s 19 (k_n a) = -1 then (kw s 18 (k_n a) (kc s), 1) else (s, 0)
def o_end (s : kS) (a w v : Int32) : kS × Int32 := if k_in a (kr s) ∧ ¬ kF s 19 (k_n a) = -1 then (k_settle (if ¬ w = 0 then k_done s (k_n (kF s 19 (k_n a))) v else k_fail s (k_n (kF s 19 (k_n a)))), 1) else (s, 0)
def o_cancel (s : kS) (a : Int32) : kS × Int32 := if k_in a (kq s) ∧ kF s 8 (k_n a) = 0 ∧ ¬ k_over s (k_n a) then (k_settle (k_stop s (k_n a)), 1) else (s, 0)
def o_again (s : kS) (a : Int32) : kS × Int32 := if k_in a (kq s) ∧ kF s 8 (k_n a) = 0 ∧ k_over s (k_n a) then (k_settle (k_agN s (k_n a) (kj s)), k_agC s (k_n a) (kj s)) else (s, -1)
def o_needs (s : kS) (a b : Int32) : kS × Int32 := if kq s = 0 ∧ ¬ b < 0 ∧ ¬ a ≤ b ∧ ¬ nI (kj s) ≤ a ∧ ¬ k_bit (kF s 3 (k_n a)) (k_n b) then (kw s 3 (k_n a) (kF s 3 (k_n a) ||| ((1 : Int32) <<< (b &&& 31))), 1) else (s, 0)
def o_appr (s : kS) (a b p : Int32) : kS × Int32 := if k_in a (kq s) ∧ k_in b (kj s) ∧ k_in p 8 ∧ ¬ kF s 5 (k_n b) = 0 ∧ ¬ 2 < kF s 9 (12 * k_n a + k_n b) then (if kF s 6 (k_n a) = p then (s, -2) else if k_bit (kF s 16 (12 * k_n a + k_n b)) (k_n p) then (s, 0) else (k_settle (kw s 16 (12 * k_n a + k_n b) (kF s 16 (12 * k_n a + k_n b) ||| ((1 : Int32) <<< (p &&& 31)))), 1)) else (s, -1)
/-- approvals are bits of eight persons -/
theorem k_ap : ∀ a, a < 256 → ∀ p, p < 8 → (nI a ||| ((1 : Int32) <<< (nI p &&& 31))) = nI (a ||| 2 ^ p) ∧ a ||| 2 ^ p < 256 ∧ ((nI a &&& ((1 : Int32) <<< (nI p &&& 31))) = 0 ↔ ¬ k_bit (nI a) p) := by decide +kernel
theorem kI.appr {s : kS} {R : Nat → Option Nat} (h : kI s R) {x p : Nat} (hx : k_ok s x) (hp : p < 8) : kI (kw s 16 x (kF s 16 x ||| ((1 : Int32) <<< (nI p &&& 31)))) R := by
  have hn : ∀ a b, a ≠ 16 → kF (kw s 16 x (kF s 16 x ||| ((1 : Int32) <<< (nI p &&& 31)))) a b = kF s a b := fun a b ha => by rw [kw_F, if_neg (fun q => ha q.1)]
  refine h.step rfl (fun y u e => ?_) (fun u hu => ?_) (fun y hy => ?_) (fun y hy f f1 f2 => ?_) (fun r hr => ?_) (fun y => ?_) (fun j => ?_) (fun y => ?_)
  · rw [hn _ _ (by decide)]; exact h.2.1 y u e
  · rw [hn _ _ (by decide)]; exact h.2.2.1 u hu
  · rw [hn _ _ (by decide)]; exact h.2.2.2.1 y hy
  · rw [kw_F, if_neg (fun q => hy (by rw [q.2]; exact hx))]
  · rw [hn _ _ (by decide)]
  · rw [hn _ _ (by decide), hn _ _ (by decide)]; exact h.2.2.2.2.2.2.1 y
  · rw [hn _ _ (by decide)]
  · rw [kw_F]
    split
    · obtain ⟨a, ha, e⟩ := h.2.2.2.2.2.2.2.2 x
      rw [e, (k_ap a ha p hp).1]
      exact ⟨_, (k_ap a ha p hp).2.1, rfl⟩
    · exact h.2.2.2.2.2.2.2.2 y
theorem kI8.other {s : kS} (h : kI8 s) {f i : Nat} {v : Int32} (h8 : f ≠ 8) (h4 : f ≠ 4) (h9 : f ≠ 9) : kI8 (kw s f i v) := by
  refine h.keep rfl (fun r => ?_) (fun j => ?_) (fun y h0 => ?_)
  · rw [kw_F, if_neg (fun q => h8 q.1.symm)]
  · rw [kw_F, if_neg (fun q => h4 q.1.symm)]
  · rw [kw_F, if_neg (fun q => h9 q.1.symm)] at h0; exact h0
theorem k_agN_F (s : kS) (r : Nat) {a b : Nat} (h : a ≠ 9 ∧ a ≠ 12 ∧ a ≠ 14) : ∀ n, kF (k_agN s r n) a b = kF s a b
  | 0 => rfl
  | n + 1 => by
    show kF (k_ag1 (k_agN s r n) (12 * r + n)) a b = _
    unfold k_ag1
    split
    · rw [kw_F, if_neg (by omega), kw_F, if_neg (by omega), kw_F, if_neg (by omega)]; exact k_agN_F s r h n
    · exact k_agN_F s r h n
theorem k_agN_9 (s : kS) (r : Nat) {x : Nat} : ∀ n, (∀ j, j < n → x ≠ 12 * r + j) → kF (k_agN s r n) 9 x = kF s 9 x
  | 0, _ => rfl
  | n + 1, h => by
    show kF (k_ag1 (k_agN s r n) (12 * r + n)) 9 x = _
    unfold k_ag1
    split
    · rw [kw_F, if_neg (by omega), kw_F, if_neg (by omega), kw_F, if_neg (fun q => h n (by omega) q.2)]; exact k_agN_9 s r n (fun j hj => h j (by omega))
    · exact k_agN_9 s r n (fun j hj => h j (by omega))
theorem kI8.again {s : kS} (h : kI8 s) {r : Nat} (h0 : kF s 8 r = 0) (n : Nat) (hn : n ≤ 12) : kI8 (k_agN s r n) := by
  intro x hx hz
  rw [k_ok_eq (k_agN_1 s r n)] at hx
  rw [k_agN_F s r (by decide), k_agN_F s r (by decide)]
  by_cases e : x / 12 = r
  · rw [e]; exact fun q => q.1 h0
  · rw [k_agN_9 s r n (fun j hj q => e (by omega))] at hz
    exact h x hx hz
/-- needs are bits of earlier jobs -/
theorem kI.needs {s : kS} {R : Nat → Option Nat} (h : kI s R) {a b : Nat} (hb : b < a) (ha : a < kj s) (hk : ∀ k, a ≤ k → k < 12 → ¬ k_bit (kF s 3 a ||| ((1 : Int32) <<< (nI b &&& 31))) k) : kI (kw s 3 a (kF s 3 a ||| ((1 : Int32) <<< (nI b &&& 31)))) R := by
  obtain ⟨a1, a2, a3, a4, a5, a6, a7, a8, a9⟩ := h
  have hn : ∀ f i, f ≠ 3 → kF (kw s 3 a (kF s 3 a ||| ((1 : Int32) <<< (nI b &&& 31)))) f i = kF s f i := fun f i hf => by rw [kw_F, if_neg (fun q => hf q.1)]
  refine ⟨a1, fun x u e => ?_, fun u hu => ?_, fun x hx => ?_, fun x hx f f1 f2 => ?_, fun r => ⟨fun hr => ?_, fun hr => ?_⟩, fun x => ?_, fun j k q1 q2 => ?_, fun x => ?_⟩
  · rw [hn _ _ (by decide)]; exact a2 x u e
  · rw [hn _ _ (by decide)]; exact a3 u hu
  · rw [hn _ _ (by decide)]; exact a4 x hx
  · rw [hn _ _ (by omega)]; exact a5 x hx f f1 f2
  · rw [hn _ _ (by decide)]; exact (a6 r).1 hr
  · rw [kw_F, if_neg (fun q => by have e : kj s ≤ r := hr; omega)]; exact (a6 r).2 hr
  · rw [hn _ _ (by decide), hn _ _ (by decide)]; exact a7 x
  · rw [kw_F]
    split
    · rename_i q; rw [q.2] at q1; exact hk k q1 q2
    · exact a8 j k q1 q2
  · rw [hn _ _ (by decide)]; exact a9 x
/-- bit by bit -/
theorem k_bit_or (v w : Int32) {k : Nat} (hk : k < 12) : k_bit (v ||| w) k → k_bit v k ∨ k_bit w k := by
  intro h
  refine Classical.byContradiction (fun q => ?_)
  have q1 : (v >>> (nI k &&& 31)) &&& 1 = 0 := Classical.byContradiction (fun z => q (Or.inl z))
  have q2 : (w >>> (nI k &&& 31)) &&& 1 = 0 := Classical.byContradiction (fun z => q (Or.inr z))
  apply h
  have e : (v ||| w) >>> (nI k &&& 31) = (v >>> (nI k &&& 31)) ||| (w >>> (nI k &&& 31)) := by
    apply Int32.toBitVec_inj.mp
    simp only [Int32.toBitVec_shiftRight, Int32.toBitVec_or]
    ext i hi
    simp [BitVec.getElem_sshiftRight]
    split <;> rfl
  rw [e]
  apply Int32.toBitVec_inj.mp
  have q1 := congrArg Int32.toBitVec q1
  have q2 := congrArg Int32.toBitVec q2
  simp only [Int32.toBitVec_and, Int32.toBitVec_or] at q1 q2 ⊢
  rw [BitVec.and_comm, BitVec.and_or_distrib_left, BitVec.and_comm _ (v >>> _).toBitVec, BitVec.and_comm _ (w >>> _).toBitVec, q1, q2]
  rfl
theorem k_bit_1 : ∀ b, b < 12 → ∀ k, k < 12 → k_bit ((1 : Int32) <<< (nI b &&& 31)) k → k = b := by decide +kernel
end
section
/-! bits: what Integer.bitCount answers; a job's needs; whether a task may run -/
def kus (x z : Int32) : Int32 := (x.toUInt32 >>> (z.toUInt32 &&& Int32.toUInt32 31)).toInt32
def kbc1 (v : Int32) : Int32 := v - (kus v 1 &&& 1431655765)
def kbc2 (v : Int32) : Int32 := (v &&& 858993459) + (kus v 2 &&& 858993459)
def kbc3 (v : Int32) : Int32 := (v + kus v 4) &&& 252645135
def kbc4 (v : Int32) : Int32 := v + kus v 8
def kbc5 (v : Int32) : Int32 := v + kus v 16
def kbc (v : Int32) : Int32 := kbc5 (kbc4 (kbc3 (kbc2 (kbc1 v)))) &&& 63
theorem kbc_ok : ∀ a, a < 256 → (2 ≤ kbc (nI a) ↔ 1 < k_cnt (nI a) 8) := by decide +kernel
theorem s_bitCount {g : xm_G} {h : xm_H} {v : Int32} : xm_S g 0 m_I_bitCount (xm_entry m_I_bitCount [.int v]) h (xq_i fun r h' => r = kbc v ∧ h' = h) := by
  show xm_S g 0 m_I_bitCount (0, [some (.int v)], []) h _
  refine xr_iload_n d_I_bitCount_0 rfl ?_
  refine xr_iload_n d_I_bitCount_1 rfl ?_
  refine xr_iconst (v := 1) d_I_bitCount_2 rfl ?_
  refine xr_iushr d_I_bitCount_3 ?_
  refine xr_ldcw d_I_bitCount_4 xl_7_265 ?_
  refine xr_iand d_I_bitCount_7 ?_
  refine xr_isub d_I_bitCount_8 ?_
  refine xr_istore_n d_I_bitCount_9 (Nat.le_of_ble_eq_true rfl) ?_
  refine xr_iload_n d_I_bitCount_10 rfl ?_
  refine xr_ldcw d_I_bitCount_11 xl_7_266 ?_
  refine xr_iand d_I_bitCount_14 ?_
  refine xr_iload_n d_I_bitCount_15 rfl ?_
  refine xr_iconst (v := 2) d_I_bitCount_16 rfl ?_
  refine xr_iushr d_I_bitCount_17 ?_
  refine xr_ldcw d_I_bitCount_18 xl_7_266 ?_
  refine xr_iand d_I_bitCount_21 ?_
  refine xr_iadd d_I_bitCount_22 ?_
  refine xr_istore_n d_I_bitCount_23 (Nat.le_of_ble_eq_true rfl) ?_
  refine xr_iload_n d_I_bitCount_24 rfl ?_
  refine xr_iload_n d_I_bitCount_25 rfl ?_
  refine xr_iconst (v := 4) d_I_bitCount_26 rfl ?_
  refine xr_iushr d_I_bitCount_27 ?_
  refine xr_iadd d_I_bitCount_28 ?_
  refine xr_ldcw d_I_bitCount_29 xl_7_267 ?_
  refine xr_iand d_I_bitCount_32 ?_
  refine xr_istore_n d_I_bitCount_33 (Nat.le_of_ble_eq_true rfl) ?_
  refine xr_iload_n d_I_bitCount_34 rfl ?_
  refine xr_iload_n d_I_bitCount_35 rfl ?_
  refine xr_bipush (v := 8) d_I_bitCount_36 rfl ?_
  refine xr_iushr d_I_bitCount_38 ?_
  refine xr_iadd d_I_bitCount_39 ?_
  refine xr_istore_n d_I_bitCount_40 (Nat.le_of_ble_eq_true rfl) ?_
  refine xr_iload_n d_I_bitCount_41 rfl ?_
  refine xr_iload_n d_I_bitCount_42 rfl ?_
  refine xr_bipush (v := 16) d_I_bitCount_43 rfl ?_
  refine xr_iushr d_I_bitCount_45 ?_
  refine xr_iadd d_I_bitCount_46 ?_
  refine xr_istore_n d_I_bitCount_47 (Nat.le_of_ble_eq_true rfl) ?_
  refine xr_iload_n d_I_bitCount_48 rfl ?_
  refine xr_bipush (v := 63) d_I_bitCount_49 rfl ?_
  refine xr_iand d_I_bitCount_51 ?_
  refine xr_ireturn d_I_bitCount_52 rfl rfl rfl ?_
  exact ⟨_, rfl, rfl, rfl⟩
theorem s_isNeeding {g : xm_G} {h : xm_H} {c m : kS} {R : Nat → Option Nat} {A : kA} (hW : kW c R m A h) {j k : Nat} (hj : j < kj c) : xm_S g 0 m_Job_isNeeding (xm_entry m_Job_isNeeding [.ref (A 1 j), .int (nI k)]) h (xq_i fun v h' => v = kbi (k_bit (kF c 3 j) k) ∧ h' = h) := by
  show xm_S g 0 m_Job_isNeeding (0, [some (.ref (A 1 j)), some (.int (nI k))], []) h _
  refine xr_aload_n d_Job_isNeeding_0 rfl ?_
  refine xr_getf d_Job_isNeeding_1 xf_0_7 (hW.job hj) rfl ?_
  refine xr_iload_n d_Job_isNeeding_4 rfl ?_
  refine xr_ishr d_Job_isNeeding_5 ?_
  refine xr_iconst (v := 1) d_Job_isNeeding_6 rfl ?_
  refine xr_iand d_Job_isNeeding_7 ?_
  refine xr_if_eq (tgt := 15) d_Job_isNeeding_8 rfl (fun c8 => ?_) (fun c8 => ?_)
  · refine xr_iconst (v := 0) d_Job_isNeeding_15 rfl ?_
    refine xr_ireturn d_Job_isNeeding_16 rfl rfl rfl ?_
    refine ⟨_, rfl, ?_, rfl⟩
    first | exact (kbi_t (by assumption)).symm | exact (kbi_f (fun q => q (by assumption))).symm
  · refine xr_iconst (v := 1) d_Job_isNeeding_11 rfl ?_
    refine xr_goto (tgt := 16) d_Job_isNeeding_12 rfl ?_
    refine xr_ireturn d_Job_isNeeding_16 rfl rfl rfl ?_
    refine ⟨_, rfl, ?_, rfl⟩
    first | exact (kbi_t (by assumption)).symm | exact (kbi_f (fun q => q (by assumption))).symm
theorem s_isFreeToRun {g : xm_G} {h : xm_H} {c m : kS} {R : Nat → Option Nat} {A : kA} (hW : kW c R m A h) {x : Nat} (hx : x < 12 * kq c ∧ x % 12 < kj c) (ha : ∃ a, a < 256 ∧ kF c 16 x = nI a) : xm_S g 1 m_Tsk_isFreeToRun (xm_entry m_Tsk_isFreeToRun [.ref (A 5 x)]) h (xq_i fun v h' => v = kbi (kF c 5 (x % 12) = 0 ∨ 1 < k_cnt (kF c 16 x) 8) ∧ h' = h) := by
  show xm_S g 1 m_Tsk_isFreeToRun (0, [some (.ref (A 5 x))], []) h _
  refine xr_aload_n d_Tsk_isFreeToRun_0 rfl ?_
  refine xr_getf d_Tsk_isFreeToRun_1 xf_3_48 (hW.tsk hx) rfl ?_
  refine xr_getf d_Tsk_isFreeToRun_4 xf_3_55 (hW.job hx.2) rfl ?_
  refine xr_if_eq (tgt := 21) d_Tsk_isFreeToRun_7 rfl (fun c7 => ?_) (fun c7 => ?_)
  · refine xr_iconst (v := 1) d_Tsk_isFreeToRun_21 rfl ?_
    refine xr_goto (tgt := 26) d_Tsk_isFreeToRun_22 rfl ?_
    refine xr_ireturn d_Tsk_isFreeToRun_26 rfl rfl rfl ?_
    refine ⟨_, rfl, ?_, rfl⟩
    first | exact (kbi_t (Or.inl (by assumption))).symm | exact (kbi_t (Or.inr (hbc.mp (ki_nlt.mp (by assumption))))).symm | exact (kbi_f (fun q => q.elim (by assumption) (fun z => absurd (hbc.mpr z) (ki_nle.mpr (by assumption))))).symm
  · refine xr_aload_n d_Tsk_isFreeToRun_10 rfl ?_
    refine xr_getf d_Tsk_isFreeToRun_11 xf_3_22 (hW.tsk hx) rfl ?_
    refine xr_S1i d_Tsk_isFreeToRun_14 xs_3_60 rfl rfl (Nat.le_of_ble_eq_true rfl) (by decide) s_bitCount (fun v h1 h9 => ?_)
    obtain ⟨rfl, rfl⟩ := h9
    obtain ⟨a, ha1, ha2⟩ := ha
    have hbc := kbc_ok a ha1
    rw [← ha2] at hbc
    refine xr_iconst (v := 2) d_Tsk_isFreeToRun_17 rfl ?_
    refine xr_icmp_lt (tgt := 25) d_Tsk_isFreeToRun_18 rfl (fun c18 => ?_) (fun c18 => ?_)
    · refine xr_iconst (v := 0) d_Tsk_isFreeToRun_25 rfl ?_
      refine xr_ireturn d_Tsk_isFreeToRun_26 rfl rfl rfl ?_
      refine ⟨_, rfl, ?_, rfl⟩
      first | exact (kbi_t (Or.inl (by assumption))).symm | exact (kbi_t (Or.inr (hbc.mp (ki_nlt.mp (by assumption))))).symm | exact (kbi_f (fun q => q.elim (by assumption) (fun z => absurd (hbc.mpr z) (ki_nle.mpr (by assumption))))).symm
    · refine xr_iconst (v := 1) d_Tsk_isFreeToRun_21 rfl ?_
      refine xr_goto (tgt := 26) d_Tsk_isFreeToRun_22 rfl ?_
      refine xr_ireturn d_Tsk_isFreeToRun_26 rfl rfl rfl ?_
      refine ⟨_, rfl, ?_, rfl⟩
      first | exact (kbi_t (Or.inl (by assumption))).symm | exact (kbi_t (Or.inr (hbc.mp (ki_nlt.mp (by assumption))))).symm | exact (kbi_f (fun q => q.elim (by assumption) (fun z => absurd (hbc.mpr z) (ki_nle.mpr (by assumption))))).symm
end
section
/-! a run's methods that only look -/
theorem k_okx {c : kS} {R : Nat → Option Nat} {m : kS} {A : kA} {h : xm_H} (hW : kW c R m A h) {r j : Nat} (hr : r < kq c) (hj : j < kj c) : 12 * r + j < 12 * kq c ∧ (12 * r + j) % 12 < kj c := by
  have h1 := hW.2.2.1
  omega
theorem l_isOver {g : xm_G} {h : xm_H} {c m : kS} {R : Nat → Option Nat} {A : kA} (hW : kW c R m A h) {r : Nat} (hr : r < kq c) : ∀ (n : Nat) (j : Nat), j ≤ kj c → kj c < j + n → (∀ k, k < j → 2 < kF c 9 (12 * r + k)) → xm_S g 1 m_Run_isOver (2, [some (.ref (A 3 r)), some (.int (nI j))], []) h (xq_i fun v h' => v = kbi (k_over c r) ∧ h' = h) := by
  intro n
  induction n with
  | zero => intros; omega
  | succ n ih =>
    intro j h1 h2 hI
    refine xr_iload_n d_Run_isOver_2 rfl ?_
    refine xr_aload_n d_Run_isOver_3 rfl ?_
    refine xr_getf d_Run_isOver_4 xf_1_27 (hW.run hr) rfl ?_
    refine xr_alen d_Run_isOver_7 (hW.tks hr) rfl ?_
    refine xr_icmp_ge (tgt := 31) d_Run_isOver_8 rfl (fun c8 => ?_) (fun c8 => ?_)
    · have hje : j = kj c := by
        rcases Nat.lt_or_ge j (kj c) with q | q
        · exact absurd c8 (nI_ge q (by have := hW.2.2.1; omega))
        · omega
      refine xr_iconst (v := 1) d_Run_isOver_31 rfl ?_
      refine xr_ireturn d_Run_isOver_32 rfl rfl rfl ?_
      exact ⟨_, rfl, (kbi_t (fun k hk => hI k (by omega))).symm, rfl⟩
    · have hjl : j < kj c := by
        rcases Nat.lt_or_ge j (kj c) with q | q
        · exact q
        · exact absurd (nI_le q (by have := hW.2.2.1; omega)) c8
      have hxj := k_okx hW hr hjl
      refine xr_aload_n d_Run_isOver_11 rfl ?_
      refine xr_getf d_Run_isOver_12 xf_1_27 (hW.run hr) rfl ?_
      refine xr_iload_n d_Run_isOver_15 rfl ?_
      refine kr_tks (j := j) hW hr d_Run_isOver_16 rfl hjl ?_
      refine xr_V0i d_Run_isOver_17 xv_1_31 (hW.tsk hxj) rfl (Nat.le_of_ble_eq_true rfl) (by decide) (s_isEnded hW hxj) (fun v h1 h9 => ?_)
      obtain ⟨rfl, e9⟩ := h9
      have e9 := e9.symm
      subst e9
      refine xr_if_ne (tgt := 25) d_Run_isOver_20 rfl (fun c20 => ?_) (fun c20 => ?_)
      · refine xr_iinc1 d_Run_isOver_25 rfl ?_
        refine xr_goto (tgt := 2) d_Run_isOver_28 rfl ?_
        rw [nI_1]
        exact ih (j + 1) (by omega) (by omega) (lt_s hI (by first | assumption | exact Classical.byContradiction (fun q => c20 (kbi_0.mpr q))))
      · refine xr_iconst (v := 0) d_Run_isOver_23 rfl ?_
        refine xr_ireturn d_Run_isOver_24 rfl rfl rfl ?_
        exact ⟨_, rfl, (kbi_f (fun q => absurd (q j hjl) (kbi_0.mp c20))).symm, rfl⟩
theorem s_isOver {g : xm_G} {h : xm_H} {c m : kS} {R : Nat → Option Nat} {A : kA} (hW : kW c R m A h) {r : Nat} (hr : r < kq c) : xm_S g 1 m_Run_isOver (xm_entry m_Run_isOver [.ref (A 3 r)]) h (xq_i fun v h' => v = kbi (k_over c r) ∧ h' = h) := by
  show xm_S g 1 m_Run_isOver (0, [some (.ref (A 3 r)), none], []) h _
  refine xr_iconst (v := 0) d_Run_isOver_0 rfl ?_
  refine xr_istore_n d_Run_isOver_1 (Nat.le_of_ble_eq_true rfl) ?_
  exact l_isOver hW hr (kj c + 1) 0 (by omega) (by omega) lt_0
theorem l_isAnyFailed {g : xm_G} {h : xm_H} {c m : kS} {R : Nat → Option Nat} {A : kA} (hW : kW c R m A h) {r : Nat} (hr : r < kq c) : ∀ (n : Nat) (j : Nat), j ≤ kj c → kj c < j + n → (∀ k, k < j → ¬ kF c 9 (12 * r + k) = 4) → xm_S g 0 m_Run_isAnyFailed (2, [some (.ref (A 3 r)), some (.int (nI j))], []) h (xq_i fun v h' => v = kbi (k_anyf c r) ∧ h' = h) := by
  intro n
  induction n with
  | zero => intros; omega
  | succ n ih =>
    intro j h1 h2 hI
    refine xr_iload_n d_Run_isAnyFailed_2 rfl ?_
    refine xr_aload_n d_Run_isAnyFailed_3 rfl ?_
    refine xr_getf d_Run_isAnyFailed_4 xf_1_27 (hW.run hr) rfl ?_
    refine xr_alen d_Run_isAnyFailed_7 (hW.tks hr) rfl ?_
    refine xr_icmp_ge (tgt := 32) d_Run_isAnyFailed_8 rfl (fun c8 => ?_) (fun c8 => ?_)
    · have hje : j = kj c := by
        rcases Nat.lt_or_ge j (kj c) with q | q
        · exact absurd c8 (nI_ge q (by have := hW.2.2.1; omega))
        · omega
      refine xr_iconst (v := 0) d_Run_isAnyFailed_32 rfl ?_
      refine xr_ireturn d_Run_isAnyFailed_33 rfl rfl rfl ?_
      exact ⟨_, rfl, (kbi_f (p := k_anyf c r) (fun q => q (fun k hk => hI k (by omega)))).symm, rfl⟩
    · have hjl : j < kj c := by
        rcases Nat.lt_or_ge j (kj c) with q | q
        · exact q
        · exact absurd (nI_le q (by have := hW.2.2.1; omega)) c8
      have hxj := k_okx hW hr hjl
      refine xr_aload_n d_Run_isAnyFailed_11 rfl ?_
      refine xr_getf d_Run_isAnyFailed_12 xf_1_27 (hW.run hr) rfl ?_
      refine xr_iload_n d_Run_isAnyFailed_15 rfl ?_
      refine kr_tks (j := j) hW hr d_Run_isAnyFailed_16 rfl hjl ?_
      refine xr_getf d_Run_isAnyFailed_17 xf_1_35 (hW.tsk hxj) rfl ?_
      refine xr_iconst (v := 4) d_Run_isAnyFailed_20 rfl ?_
      refine xr_icmp_ne (tgt := 26) d_Run_isAnyFailed_21 rfl (fun c21 => ?_) (fun c21 => ?_)
      · refine xr_iinc1 d_Run_isAnyFailed_26 rfl ?_
        refine xr_goto (tgt := 2) d_Run_isAnyFailed_29 rfl ?_
        rw [nI_1]
        exact ih (j + 1) (by omega) (by omega) (lt_s hI c21)
      · refine xr_iconst (v := 1) d_Run_isAnyFailed_24 rfl ?_
        refine xr_ireturn d_Run_isAnyFailed_25 rfl rfl rfl ?_
        exact ⟨_, rfl, (kbi_t (p := k_anyf c r) (fun q => q j hjl c21)).symm, rfl⟩
theorem s_isAnyFailed {g : xm_G} {h : xm_H} {c m : kS} {R : Nat → Option Nat} {A : kA} (hW : kW c R m A h) {r : Nat} (hr : r < kq c) : xm_S g 0 m_Run_isAnyFailed (xm_entry m_Run_isAnyFailed [.ref (A 3 r)]) h (xq_i fun v h' => v = kbi (k_anyf c r) ∧ h' = h) := by
  show xm_S g 0 m_Run_isAnyFailed (0, [some (.ref (A 3 r)), none], []) h _
  refine xr_iconst (v := 0) d_Run_isAnyFailed_0 rfl ?_
  refine xr_istore_n d_Run_isAnyFailed_1 (Nat.le_of_ble_eq_true rfl) ?_
  exact l_isAnyFailed hW hr (kj c + 1) 0 (by omega) (by omega) lt_0
theorem s_judge {g : xm_G} {h : xm_H} {c m : kS} {R : Nat → Option Nat} {A : kA} (hW : kW c R m A h) {r : Nat} (hr : r < kq c) : xm_S g 2 m_Run_judge (xm_entry m_Run_judge [.ref (A 3 r)]) h (xq_i fun v h' => v = (if ¬ k_over c r then 0 else if ¬ kF c 8 r = 0 then 3 else if k_anyf c r then 2 else 1) ∧ h' = h) := by
  show xm_S g 2 m_Run_judge (0, [some (.ref (A 3 r))], []) h _
  refine xr_aload_n d_Run_judge_0 rfl ?_
  refine xr_V0i d_Run_judge_1 xv_1_38 (hW.run hr) rfl (Nat.le_of_ble_eq_true rfl) (by decide) (s_isOver hW hr) (fun v h1 h9 => ?_)
  obtain ⟨rfl, e9⟩ := h9
  have e9 := e9.symm
  subst e9
  refine xr_if_ne (tgt := 9) d_Run_judge_4 rfl (fun c4 => ?_) (fun c4 => ?_)
  · refine xr_aload_n d_Run_judge_9 rfl ?_
    refine xr_getf d_Run_judge_10 xf_1_9 (hW.run hr) rfl ?_
    refine xr_if_eq (tgt := 18) d_Run_judge_13 rfl (fun c13 => ?_) (fun c13 => ?_)
    · refine xr_aload_n d_Run_judge_18 rfl ?_
      refine xr_V0i d_Run_judge_19 xv_1_41 (hW.run hr) rfl (Nat.le_of_ble_eq_true rfl) (by decide) (s_isAnyFailed hW hr) (fun v h1 h9 => ?_)
      obtain ⟨rfl, e9⟩ := h9
      have e9 := e9.symm
      subst e9
      refine xr_if_eq (tgt := 29) d_Run_judge_22 rfl (fun c22 => ?_) (fun c22 => ?_)
      · refine xr_iconst (v := 1) d_Run_judge_29 rfl ?_
        refine xr_ireturn d_Run_judge_30 rfl rfl rfl ?_
        refine ⟨_, rfl, ?_, rfl⟩
        rw [if_neg (fun q => q (kbi_n0 c4)), if_neg (fun q => q c13)]
        first | rw [if_neg (kbi_0.mp c22)] | rw [if_pos (kbi_n0 c22)]
      · refine xr_iconst (v := 2) d_Run_judge_25 rfl ?_
        refine xr_goto (tgt := 30) d_Run_judge_26 rfl ?_
        refine xr_ireturn d_Run_judge_30 rfl rfl rfl ?_
        refine ⟨_, rfl, ?_, rfl⟩
        rw [if_neg (fun q => q (kbi_n0 c4)), if_neg (fun q => q c13)]
        first | rw [if_neg (kbi_0.mp c22)] | rw [if_pos (kbi_n0 c22)]
    · refine xr_iconst (v := 3) d_Run_judge_16 rfl ?_
      refine xr_ireturn d_Run_judge_17 rfl rfl rfl ?_
      exact ⟨_, rfl, by rw [if_neg (fun q => q (kbi_n0 c4)), if_pos c13], rfl⟩
  · refine xr_iconst (v := 0) d_Run_judge_7 rfl ?_
    refine xr_ireturn d_Run_judge_8 rfl rfl rfl ?_
    exact ⟨_, rfl, (if_pos (kbi_0.mp c4)).symm, rfl⟩
set_option maxHeartbeats 4000000 in
theorem l_saw {g : xm_G} {h : xm_H} {c m : kS} {R : Nat → Option Nat} {A : kA} (hW : kW c R m A h) {r j : Nat} (hr : r < kq c) (hj : j < kj c) (ha : ∃ a, a < 256 ∧ kF c 16 (12 * r + j) = nI a) : ∀ (n : Nat) (i : Nat) (b2 b3 : Int32), i ≤ kj c → kj c < i + n → b2 = kbi (k_E c r j i) → b3 = kbi (k_B c r j i) → xm_S g 2 m_Run_stateAfterWaiting (7, [some (.ref (A 3 r)), some (.ref (A 5 (12 * r + j))), some (.int b2), some (.int b3), some (.int (nI i))], []) h (xq_i fun v h' => v = k_saw c r j ∧ h' = h) := by
  intro n
  induction n with
  | zero => intros; omega
  | succ n ih =>
    intro i b2 b3 h1 h2 e2 e3
    have hxj := k_okx hW hr hj
    have hm : (12 * r + j) % 12 = j := kx_m (by have := hW.2.2.1; omega)
    refine xr_iload d_Run_stateAfterWaiting_7 rfl ?_
    refine xr_aload_n d_Run_stateAfterWaiting_9 rfl ?_
    refine xr_getf d_Run_stateAfterWaiting_10 xf_1_27 (hW.run hr) rfl ?_
    refine xr_alen d_Run_stateAfterWaiting_13 (hW.tks hr) rfl ?_
    refine xr_icmp_ge (tgt := 95) d_Run_stateAfterWaiting_14 rfl (fun c14 => ?_) (fun c14 => ?_)
    · have hie : i = kj c := by
        rcases Nat.lt_or_ge i (kj c) with q | q
        · exact absurd c14 (nI_ge q (by have := hW.2.2.1; omega))
        · omega
      subst hie
      refine xr_iload_n d_Run_stateAfterWaiting_95 rfl ?_
      refine xr_if_ne (tgt := 111) d_Run_stateAfterWaiting_96 rfl (fun c96 => ?_) (fun c96 => ?_)
      · refine xr_iload_n d_Run_stateAfterWaiting_111 rfl ?_
        refine xr_if_eq (tgt := 126) d_Run_stateAfterWaiting_112 rfl (fun c112 => ?_) (fun c112 => ?_)
        · refine xr_iconst (v := 0) d_Run_stateAfterWaiting_126 rfl ?_
          refine xr_ireturn d_Run_stateAfterWaiting_127 rfl rfl rfl ?_
          refine ⟨_, rfl, ?_, rfl⟩
          unfold k_saw
          rw [if_neg (by rintro ⟨q1, q2⟩; first | exact c106 q1 | exact q2 (kbi_n0 (fun z => c96 (e3.trans z))))]
          first | exact (if_pos ⟨kbi_n0 (fun z => c112 (e2.trans z)), kbi_n0 c119⟩).symm | exact (if_neg (fun q => absurd q.2 (kbi_0.mp c119))).symm | exact (if_neg (fun q => absurd q.1 (kbi_0.mp (e2.symm.trans c112)))).symm
        · refine xr_aload_n d_Run_stateAfterWaiting_115 rfl ?_
          refine xr_V0i d_Run_stateAfterWaiting_116 xv_1_67 (hW.tsk hxj) rfl (Nat.le_of_ble_eq_true rfl) (by decide) (s_isFreeToRun hW hxj ha) (fun v h1 h9 => ?_)
          obtain ⟨rfl, e9⟩ := h9
          have e9 := e9.symm
          subst e9
          rw [hm]
          refine xr_if_eq (tgt := 126) d_Run_stateAfterWaiting_119 rfl (fun c119 => ?_) (fun c119 => ?_)
          · refine xr_iconst (v := 0) d_Run_stateAfterWaiting_126 rfl ?_
            refine xr_ireturn d_Run_stateAfterWaiting_127 rfl rfl rfl ?_
            refine ⟨_, rfl, ?_, rfl⟩
            unfold k_saw
            rw [if_neg (by rintro ⟨q1, q2⟩; first | exact c106 q1 | exact q2 (kbi_n0 (fun z => c96 (e3.trans z))))]
            first | exact (if_pos ⟨kbi_n0 (fun z => c112 (e2.trans z)), kbi_n0 c119⟩).symm | exact (if_neg (fun q => absurd q.2 (kbi_0.mp c119))).symm | exact (if_neg (fun q => absurd q.1 (kbi_0.mp (e2.symm.trans c112)))).symm
          · refine xr_iconst (v := 1) d_Run_stateAfterWaiting_122 rfl ?_
            refine xr_goto (tgt := 127) d_Run_stateAfterWaiting_123 rfl ?_
            refine xr_ireturn d_Run_stateAfterWaiting_127 rfl rfl rfl ?_
            refine ⟨_, rfl, ?_, rfl⟩
            unfold k_saw
            rw [if_neg (by rintro ⟨q1, q2⟩; first | exact c106 q1 | exact q2 (kbi_n0 (fun z => c96 (e3.trans z))))]
            first | exact (if_pos ⟨kbi_n0 (fun z => c112 (e2.trans z)), kbi_n0 c119⟩).symm | exact (if_neg (fun q => absurd q.2 (kbi_0.mp c119))).symm | exact (if_neg (fun q => absurd q.1 (kbi_0.mp (e2.symm.trans c112)))).symm
      · refine xr_aload_n d_Run_stateAfterWaiting_99 rfl ?_
        refine xr_getf d_Run_stateAfterWaiting_100 xf_1_44 (hW.tsk hxj) rfl ?_
        refine xr_getf d_Run_stateAfterWaiting_103 xf_1_48 (hW.job hxj.2) rfl ?_
        rw [hm]
        refine xr_if_ne (tgt := 111) d_Run_stateAfterWaiting_106 rfl (fun c106 => ?_) (fun c106 => ?_)
        · refine xr_iload_n d_Run_stateAfterWaiting_111 rfl ?_
          refine xr_if_eq (tgt := 126) d_Run_stateAfterWaiting_112 rfl (fun c112 => ?_) (fun c112 => ?_)
          · refine xr_iconst (v := 0) d_Run_stateAfterWaiting_126 rfl ?_
            refine xr_ireturn d_Run_stateAfterWaiting_127 rfl rfl rfl ?_
            refine ⟨_, rfl, ?_, rfl⟩
            unfold k_saw
            rw [if_neg (by rintro ⟨q1, q2⟩; first | exact c106 q1 | exact q2 (kbi_n0 (fun z => c96 (e3.trans z))))]
            first | exact (if_pos ⟨kbi_n0 (fun z => c112 (e2.trans z)), kbi_n0 c119⟩).symm | exact (if_neg (fun q => absurd q.2 (kbi_0.mp c119))).symm | exact (if_neg (fun q => absurd q.1 (kbi_0.mp (e2.symm.trans c112)))).symm
          · refine xr_aload_n d_Run_stateAfterWaiting_115 rfl ?_
            refine xr_V0i d_Run_stateAfterWaiting_116 xv_1_67 (hW.tsk hxj) rfl (Nat.le_of_ble_eq_true rfl) (by decide) (s_isFreeToRun hW hxj ha) (fun v h1 h9 => ?_)
            obtain ⟨rfl, e9⟩ := h9
            have e9 := e9.symm
            subst e9
            rw [hm]
            refine xr_if_eq (tgt := 126) d_Run_stateAfterWaiting_119 rfl (fun c119 => ?_) (fun c119 => ?_)
            · refine xr_iconst (v := 0) d_Run_stateAfterWaiting_126 rfl ?_
              refine xr_ireturn d_Run_stateAfterWaiting_127 rfl rfl rfl ?_
              refine ⟨_, rfl, ?_, rfl⟩
              unfold k_saw
              rw [if_neg (by rintro ⟨q1, q2⟩; first | exact c106 q1 | exact q2 (kbi_n0 (fun z => c96 (e3.trans z))))]
              first | exact (if_pos ⟨kbi_n0 (fun z => c112 (e2.trans z)), kbi_n0 c119⟩).symm | exact (if_neg (fun q => absurd q.2 (kbi_0.mp c119))).symm | exact (if_neg (fun q => absurd q.1 (kbi_0.mp (e2.symm.trans c112)))).symm
            · refine xr_iconst (v := 1) d_Run_stateAfterWaiting_122 rfl ?_
              refine xr_goto (tgt := 127) d_Run_stateAfterWaiting_123 rfl ?_
              refine xr_ireturn d_Run_stateAfterWaiting_127 rfl rfl rfl ?_
              refine ⟨_, rfl, ?_, rfl⟩
              unfold k_saw
              rw [if_neg (by rintro ⟨q1, q2⟩; first | exact c106 q1 | exact q2 (kbi_n0 (fun z => c96 (e3.trans z))))]
              first | exact (if_pos ⟨kbi_n0 (fun z => c112 (e2.trans z)), kbi_n0 c119⟩).symm | exact (if_neg (fun q => absurd q.2 (kbi_0.mp c119))).symm | exact (if_neg (fun q => absurd q.1 (kbi_0.mp (e2.symm.trans c112)))).symm
        · refine xr_iconst (v := 5) d_Run_stateAfterWaiting_109 rfl ?_
          refine xr_ireturn d_Run_stateAfterWaiting_110 rfl rfl rfl ?_
          exact ⟨_, rfl, (if_pos ⟨c106, kbi_0.mp (e3.symm.trans c96)⟩).symm, rfl⟩
    · have hil : i < kj c := by
        rcases Nat.lt_or_ge i (kj c) with q | q
        · exact q
        · exact absurd (nI_le q (by have := hW.2.2.1; omega)) c14
      have hxi := k_okx hW hr hil
      refine xr_aload_n d_Run_stateAfterWaiting_17 rfl ?_
      refine xr_getf d_Run_stateAfterWaiting_18 xf_1_44 (hW.tsk hxj) rfl ?_
      refine xr_iload d_Run_stateAfterWaiting_21 rfl ?_
      refine xr_V1i d_Run_stateAfterWaiting_23 xv_1_63 (hW.job hxj.2) rfl rfl (Nat.le_of_ble_eq_true rfl) (by decide) (s_isNeeding (k := i) hW hxj.2) (fun v h1 h9 => ?_)
      obtain ⟨rfl, e9⟩ := h9
      have e9 := e9.symm
      subst e9
      rw [hm]
      refine xr_if_eq (tgt := 89) d_Run_stateAfterWaiting_26 rfl (fun c26 => ?_) (fun c26 => ?_)
      · have hnb : ¬ k_bit (kF c 3 j) i := kbi_0.mp c26
        refine xr_iinc1 d_Run_stateAfterWaiting_89 rfl ?_
        refine xr_goto (tgt := 7) d_Run_stateAfterWaiting_92 rfl ?_
        rw [nI_1]
        exact ih (i + 1) _ _ (by omega) (by omega) (e2.trans (kbi_c (kq_s.trans ⟨fun q => q.1, fun q => ⟨q, fun z => absurd z hnb⟩⟩).symm)) (e3.trans (kbi_c (kq_s.trans ⟨fun q => q.1, fun q => ⟨q, fun z => absurd z hnb⟩⟩).symm))
      · have hnb : k_bit (kF c 3 j) i := kbi_n0 c26
        have hE : kbi (k_E c r j (i + 1)) = kbi (k_E c r j i ∧ 2 < kF c 9 (12 * r + i)) := kbi_c (kq_s.trans ⟨fun q => ⟨q.1, q.2 hnb⟩, fun q => ⟨q.1, fun _ => q.2⟩⟩)
        have hB : kbi (k_B c r j (i + 1)) = kbi (k_B c r j i ∧ (2 < kF c 9 (12 * r + i) → kF c 9 (12 * r + i) = 3)) := kbi_c (kq_s.trans ⟨fun q => ⟨q.1, q.2 hnb⟩, fun q => ⟨q.1, fun _ => q.2⟩⟩)
        have K52 : ∀ b2 : Int32, b2 = kbi (k_E c r j (i + 1)) → xm_S g 2 m_Run_stateAfterWaiting (52, [some (.ref (A 3 r)), some (.ref (A 5 (12 * r + j))), some (.int b2), some (.int b3), some (.int (nI i))], []) h (xq_i fun v h' => v = k_saw c r j ∧ h' = h) := by
          intro b2 hb2
          refine xr_iload_n d_Run_stateAfterWaiting_52 rfl ?_
          refine xr_if_eq (tgt := 87) d_Run_stateAfterWaiting_53 rfl (fun c53 => ?_) (fun c53 => ?_)
          · have w3 : kbi (k_B c r j i ∧ (2 < kF c 9 (12 * r + i) → kF c 9 (12 * r + i) = 3)) = 0 := kbi_f (fun q => absurd q.1 (kbi_0.mp (e3.symm.trans c53)))
            refine xr_iconst (v := 0) d_Run_stateAfterWaiting_87 rfl ?_
            refine xr_istore_n d_Run_stateAfterWaiting_88 (Nat.le_of_ble_eq_true rfl) ?_
            refine xr_iinc1 d_Run_stateAfterWaiting_89 rfl ?_
            refine xr_goto (tgt := 7) d_Run_stateAfterWaiting_92 rfl ?_
            rw [nI_1]
            exact ih (i + 1) _ _ (by omega) (by omega) hb2 (hB.trans w3).symm
          · refine xr_aload_n d_Run_stateAfterWaiting_56 rfl ?_
            refine xr_getf d_Run_stateAfterWaiting_57 xf_1_27 (hW.run hr) rfl ?_
            refine xr_iload d_Run_stateAfterWaiting_60 rfl ?_
            refine kr_tks (j := i) hW hr d_Run_stateAfterWaiting_62 rfl hil ?_
            refine xr_getf d_Run_stateAfterWaiting_63 xf_1_35 (hW.tsk hxi) rfl ?_
            refine xr_iconst (v := 3) d_Run_stateAfterWaiting_66 rfl ?_
            refine xr_icmp_eq (tgt := 83) d_Run_stateAfterWaiting_67 rfl (fun c67 => ?_) (fun c67 => ?_)
            · have w3 : kbi (k_B c r j i ∧ (2 < kF c 9 (12 * r + i) → kF c 9 (12 * r + i) = 3)) = 1 := kbi_t ⟨kbi_n0 (fun z => c53 (e3.trans z)), fun _ => c67⟩
              refine xr_iconst (v := 1) d_Run_stateAfterWaiting_83 rfl ?_
              refine xr_goto (tgt := 88) d_Run_stateAfterWaiting_84 rfl ?_
              refine xr_istore_n d_Run_stateAfterWaiting_88 (Nat.le_of_ble_eq_true rfl) ?_
              refine xr_iinc1 d_Run_stateAfterWaiting_89 rfl ?_
              refine xr_goto (tgt := 7) d_Run_stateAfterWaiting_92 rfl ?_
              rw [nI_1]
              exact ih (i + 1) _ _ (by omega) (by omega) hb2 (hB.trans w3).symm
            · refine xr_aload_n d_Run_stateAfterWaiting_70 rfl ?_
              refine xr_getf d_Run_stateAfterWaiting_71 xf_1_27 (hW.run hr) rfl ?_
              refine xr_iload d_Run_stateAfterWaiting_74 rfl ?_
              refine kr_tks (j := i) hW hr d_Run_stateAfterWaiting_76 rfl hil ?_
              refine xr_V0i d_Run_stateAfterWaiting_77 xv_1_31 (hW.tsk hxi) rfl (Nat.le_of_ble_eq_true rfl) (by decide) (s_isEnded hW hxi) (fun v h1 h9 => ?_)
              obtain ⟨rfl, e9⟩ := h9
              have e9 := e9.symm
              subst e9
              refine xr_if_ne (tgt := 87) d_Run_stateAfterWaiting_80 rfl (fun c80 => ?_) (fun c80 => ?_)
              · have w3 : kbi (k_B c r j i ∧ (2 < kF c 9 (12 * r + i) → kF c 9 (12 * r + i) = 3)) = 0 := kbi_f (fun q => c67 (q.2 (kbi_n0 c80)))
                refine xr_iconst (v := 0) d_Run_stateAfterWaiting_87 rfl ?_
                refine xr_istore_n d_Run_stateAfterWaiting_88 (Nat.le_of_ble_eq_true rfl) ?_
                refine xr_iinc1 d_Run_stateAfterWaiting_89 rfl ?_
                refine xr_goto (tgt := 7) d_Run_stateAfterWaiting_92 rfl ?_
                rw [nI_1]
                exact ih (i + 1) _ _ (by omega) (by omega) hb2 (hB.trans w3).symm
              · have w3 : kbi (k_B c r j i ∧ (2 < kF c 9 (12 * r + i) → kF c 9 (12 * r + i) = 3)) = 1 := kbi_t ⟨kbi_n0 (fun z => c53 (e3.trans z)), fun z => absurd z (kbi_0.mp c80)⟩
                refine xr_iconst (v := 1) d_Run_stateAfterWaiting_83 rfl ?_
                refine xr_goto (tgt := 88) d_Run_stateAfterWaiting_84 rfl ?_
                refine xr_istore_n d_Run_stateAfterWaiting_88 (Nat.le_of_ble_eq_true rfl) ?_
                refine xr_iinc1 d_Run_stateAfterWaiting_89 rfl ?_
                refine xr_goto (tgt := 7) d_Run_stateAfterWaiting_92 rfl ?_
                rw [nI_1]
                exact ih (i + 1) _ _ (by omega) (by omega) hb2 (hB.trans w3).symm
        refine xr_iload_n d_Run_stateAfterWaiting_29 rfl ?_
        refine xr_if_eq (tgt := 50) d_Run_stateAfterWaiting_30 rfl (fun c30 => ?_) (fun c30 => ?_)
        · have w2 : kbi (k_E c r j i ∧ 2 < kF c 9 (12 * r + i)) = 0 := kbi_f (fun q => absurd q.1 (kbi_0.mp (e2.symm.trans c30)))
          refine xr_iconst (v := 0) d_Run_stateAfterWaiting_50 rfl ?_
          refine xr_istore_n d_Run_stateAfterWaiting_51 (Nat.le_of_ble_eq_true rfl) ?_
          exact K52 _ (hE.trans w2).symm
        · refine xr_aload_n d_Run_stateAfterWaiting_33 rfl ?_
          refine xr_getf d_Run_stateAfterWaiting_34 xf_1_27 (hW.run hr) rfl ?_
          refine xr_iload d_Run_stateAfterWaiting_37 rfl ?_
          refine kr_tks (j := i) hW hr d_Run_stateAfterWaiting_39 rfl hil ?_
          refine xr_V0i d_Run_stateAfterWaiting_40 xv_1_31 (hW.tsk hxi) rfl (Nat.le_of_ble_eq_true rfl) (by decide) (s_isEnded hW hxi) (fun v h1 h9 => ?_)
          obtain ⟨rfl, e9⟩ := h9
          have e9 := e9.symm
          subst e9
          refine xr_if_eq (tgt := 50) d_Run_stateAfterWaiting_43 rfl (fun c43 => ?_) (fun c43 => ?_)
          · have w2 : kbi (k_E c r j i ∧ 2 < kF c 9 (12 * r + i)) = 0 := kbi_f (fun q => absurd q.2 (kbi_0.mp c43))
            refine xr_iconst (v := 0) d_Run_stateAfterWaiting_50 rfl ?_
            refine xr_istore_n d_Run_stateAfterWaiting_51 (Nat.le_of_ble_eq_true rfl) ?_
            exact K52 _ (hE.trans w2).symm
          · have w2 : kbi (k_E c r j i ∧ 2 < kF c 9 (12 * r + i)) = 1 := kbi_t ⟨kbi_n0 (fun z => c30 (e2.trans z)), kbi_n0 c43⟩
            refine xr_iconst (v := 1) d_Run_stateAfterWaiting_46 rfl ?_
            refine xr_goto (tgt := 51) d_Run_stateAfterWaiting_47 rfl ?_
            refine xr_istore_n d_Run_stateAfterWaiting_51 (Nat.le_of_ble_eq_true rfl) ?_
            exact K52 _ (hE.trans w2).symm
theorem s_saw {g : xm_G} {h : xm_H} {c m : kS} {R : Nat → Option Nat} {A : kA} (hW : kW c R m A h) {r j : Nat} (hr : r < kq c) (hj : j < kj c) (ha : ∃ a, a < 256 ∧ kF c 16 (12 * r + j) = nI a) : xm_S g 2 m_Run_stateAfterWaiting (xm_entry m_Run_stateAfterWaiting [.ref (A 3 r), .ref (A 5 (12 * r + j))]) h (xq_i fun v h' => v = k_saw c r j ∧ h' = h) := by
  show xm_S g 2 m_Run_stateAfterWaiting (0, [some (.ref (A 3 r)), some (.ref (A 5 (12 * r + j))), none, none, none], []) h _
  refine xr_iconst (v := 1) d_Run_stateAfterWaiting_0 rfl ?_
  refine xr_istore_n d_Run_stateAfterWaiting_1 (Nat.le_of_ble_eq_true rfl) ?_
  refine xr_iconst (v := 1) d_Run_stateAfterWaiting_2 rfl ?_
  refine xr_istore_n d_Run_stateAfterWaiting_3 (Nat.le_of_ble_eq_true rfl) ?_
  refine xr_iconst (v := 0) d_Run_stateAfterWaiting_4 rfl ?_
  refine xr_istore d_Run_stateAfterWaiting_5 (Nat.le_of_ble_eq_true rfl) ?_
  exact l_saw hW hr hj ha (kj c + 1) 0 1 1 (by omega) (by omega) (kbi_t lt_0).symm (kbi_t lt_0).symm
end
section
/-! a run's methods that write *or* find -/
theorem l_cancelAll {g : xm_G} {h0 : xm_H} {s m : kS} {A : kA} {r : Nat} (hr0 : r < kq s)  : ∀ (n : Nat) (j : Nat) (R : Nat → Option Nat) (h : xm_H), kW (k_stopN s r j) R m A h → kI (k_stopN s r j) R → h.2 = h0.2 → j ≤ kj s → kj s < j + n → xm_S g 1 m_Run_cancelAll (7, [some (.ref (A 3 r)), some (.int (nI j))], []) h (xq_v fun h' => ∃ R', kW (k_stopN s r (kj s)) R' m A h' ∧ kI (k_stopN s r (kj s)) R' ∧ h'.2 = h0.2) := by
  intro n
  induction n with
  | zero => intros; omega
  | succ n ih =>
    intro j R h hW hI he hj hn
    have e1 := k_stopN_1 s r j
    have hk : k_stopN s r (j + 1) = k_stop1 (k_stopN s r j) r j := rfl
    generalize hC : k_stopN s r j = C at *
    have hr : r < kq C := by rw [show kq C = kq s from congrArg (fun z => z.2.2) e1]; exact hr0
    have hkj : kj C = kj s := congrArg (fun z => z.1) e1
    rw [← hkj] at hj hn
    refine xr_iload_n d_Run_cancelAll_7 rfl ?_
    refine xr_aload_n d_Run_cancelAll_8 rfl ?_
    refine xr_getf d_Run_cancelAll_9 xf_1_27 (hW.run hr) rfl ?_
    refine xr_alen d_Run_cancelAll_12 (hW.tks hr) rfl ?_
    refine xr_icmp_ge (tgt := 69) d_Run_cancelAll_13 rfl (fun c13 => ?_) (fun c13 => ?_)
    · have hje : j = kj C := by
        rcases Nat.lt_or_ge j (kj C) with q | q
        · exact absurd c13 (nI_ge q (by have := hW.2.2.1; omega))
        · omega
      refine xr_return d_Run_cancelAll_69 rfl rfl ?_
      refine ⟨rfl, R, ?_, ?_, he⟩
      · rw [← hkj, ← hje, hC]; exact hW
      · rw [← hkj, ← hje, hC]; exact hI
    · have hjl : j < kj C := by
        rcases Nat.lt_or_ge j (kj C) with q | q
        · exact q
        · exact absurd (nI_le q (by have := hW.2.2.1; omega)) c13
      have hxj := k_okx hW hr hjl
      have hm : (12 * r + j) % 12 = j := kx_m (by have := hW.2.2.1; omega)
      refine xr_aload_n d_Run_cancelAll_16 rfl ?_
      refine xr_getf d_Run_cancelAll_17 xf_1_27 (hW.run hr) rfl ?_
      refine xr_iload_n d_Run_cancelAll_20 rfl ?_
      refine kr_tks (j := j) hW hr d_Run_cancelAll_21 rfl hjl ?_
      refine xr_getf d_Run_cancelAll_22 xf_1_44 (hW.tsk hxj) rfl ?_
      refine xr_getf d_Run_cancelAll_25 xf_1_48 (hW.job hxj.2) rfl ?_
      rw [hm]
      refine xr_if_ne (tgt := 63) d_Run_cancelAll_28 rfl (fun c28 => ?_) (fun c28 => ?_)
      · have hnx : k_stopN s r (j + 1) = C := hk.trans (if_pos (Or.inl c28))
        refine xr_iinc1 d_Run_cancelAll_63 rfl ?_
        refine xr_goto (tgt := 7) d_Run_cancelAll_66 rfl ?_
        rw [nI_1]
        exact ih (j + 1) _ _ (by rw [hnx]; exact hW) (by rw [hnx]; exact hI) he (by omega) (by omega)
      · refine xr_aload_n d_Run_cancelAll_31 rfl ?_
        refine xr_getf d_Run_cancelAll_32 xf_1_27 (hW.run hr) rfl ?_
        refine xr_iload_n d_Run_cancelAll_35 rfl ?_
        refine kr_tks (j := j) hW hr d_Run_cancelAll_36 rfl hjl ?_
        refine xr_V0i d_Run_cancelAll_37 xv_1_31 (hW.tsk hxj) rfl (Nat.le_of_ble_eq_true rfl) (by decide) (s_isEnded hW hxj) (fun v h1 h9 => ?_)
        obtain ⟨rfl, e9⟩ := h9
        have e9 := e9.symm
        subst e9
        refine xr_if_ne (tgt := 63) d_Run_cancelAll_40 rfl (fun c40 => ?_) (fun c40 => ?_)
        · have hnx : k_stopN s r (j + 1) = C := hk.trans (if_pos (Or.inr (kbi_n0 c40)))
          refine xr_iinc1 d_Run_cancelAll_63 rfl ?_
          refine xr_goto (tgt := 7) d_Run_cancelAll_66 rfl ?_
          rw [nI_1]
          exact ih (j + 1) _ _ (by rw [hnx]; exact hW) (by rw [hnx]; exact hI) he (by omega) (by omega)
        · refine xr_aload_n d_Run_cancelAll_43 rfl ?_
          refine xr_getf d_Run_cancelAll_44 xf_1_27 (hW.run hr) rfl ?_
          refine xr_iload_n d_Run_cancelAll_47 rfl ?_
          refine kr_tks (j := j) hW hr d_Run_cancelAll_48 rfl hjl ?_
          refine xr_V0v d_Run_cancelAll_49 xv_1_53 (hW.tsk hxj) rfl (Nat.le_of_ble_eq_true rfl) (by decide) (s_leave hW hxj (fun u q => (hI.2.1 _ u q).2.1)) (fun h1 h9 => ?_)
          obtain ⟨hW, he1⟩ := h9
          rw [hI.lv (by have := hI.x120 hxj; omega)] at hW
          refine xr_aload_n d_Run_cancelAll_52 rfl ?_
          refine xr_getf d_Run_cancelAll_53 xf_1_27 (hW.run hr) rfl ?_
          refine xr_iload_n d_Run_cancelAll_56 rfl ?_
          refine kr_tks (j := j) hW hr d_Run_cancelAll_57 rfl hjl ?_
          refine xr_bipush (v := 6) d_Run_cancelAll_58 rfl ?_
          refine kr_pt (f := 9) hW hxj d_Run_cancelAll_60 xf_1_35 (by decide) (fun h2 hW he2 => ?_)
          have hI := hI.cancel hxj (kbi_0.mp c40)
          have he := he2.trans (he1.trans he)
          have hnx : k_stopN s r (j + 1) = kw (k_free C (12 * r + j)) 9 (12 * r + j) 6 := hk.trans (if_neg (fun q => q.elim (fun z => z c28) (kbi_0.mp c40)))
          refine xr_iinc1 d_Run_cancelAll_63 rfl ?_
          refine xr_goto (tgt := 7) d_Run_cancelAll_66 rfl ?_
          rw [nI_1]
          exact ih (j + 1) _ _ (by rw [hnx]; exact hW) (by rw [hnx]; exact hI) he (by omega) (by omega)
theorem s_cancelAll {g : xm_G} {h : xm_H} {s m : kS} {R : Nat → Option Nat} {A : kA} (hW : kW s R m A h) {r : Nat} (hr : r < kq s) (hI : kI s R) : xm_S g 1 m_Run_cancelAll (xm_entry m_Run_cancelAll [.ref (A 3 r)]) h (xq_v fun h' => ∃ R', kW (k_stop s r) R' m A h' ∧ kI (k_stop s r) R' ∧ h'.2 = h.2) := by
  show xm_S g 1 m_Run_cancelAll (0, [some (.ref (A 3 r)), none], []) h _
  refine xr_aload_n d_Run_cancelAll_0 rfl ?_
  refine xr_iconst (v := 1) d_Run_cancelAll_1 rfl ?_
  refine kr_pcan hW hr d_Run_cancelAll_2 xf_1_9 rfl (fun h1 hW he => ?_)
  refine xr_iconst (v := 0) d_Run_cancelAll_5 rfl ?_
  refine xr_istore_n d_Run_cancelAll_6 (Nat.le_of_ble_eq_true rfl) ?_
  have e : k_stop s r = k_stopN (kw s 8 r 1) r (kj s) := (k_stop_c s r (kj s)).symm
  rw [e]
  exact (l_cancelAll (s := kw s 8 r 1) (h0 := h) hr (kj s + 1) 0 R h1 hW (hI.other (by omega)) he (by omega) (by show kj s < _; omega))
theorem l_settleTasks {g : xm_G} {h0 : xm_H} {s m : kS} {A : kA} {R : Nat → Option Nat} {r : Nat} (hr0 : r < kq s)  : ∀ (n : Nat) (j : Nat) (h : xm_H), kW (k_settleN s (12 * r + j)) R m A h → kI (k_settleN s (12 * r + j)) R → kI8 (k_settleN s (12 * r + j)) → h.2 = h0.2 → j ≤ kj s → kj s < j + n → xm_S g 3 m_Run_settleTasks (2, [some (.ref (A 3 r)), some (.int (nI j))], []) h (xq_v fun h' => kW (k_settleN s (12 * r + kj s)) R m A h' ∧ kI (k_settleN s (12 * r + kj s)) R ∧ kI8 (k_settleN s (12 * r + kj s)) ∧ h'.2 = h0.2) := by
  intro n
  induction n with
  | zero => intros; omega
  | succ n ih =>
    intro j h hW hI h8 he hj hn
    have e1 := k_settleN_1 s (12 * r + j)
    have hk : k_settleN s (12 * r + j + 1) = k_set1 (k_settleN s (12 * r + j)) (12 * r + j) := rfl
    generalize hC : k_settleN s (12 * r + j) = C at *
    have hr : r < kq C := by rw [show kq C = kq s from congrArg (fun z => z.2.2) e1]; exact hr0
    have hkj : kj C = kj s := congrArg (fun z => z.1) e1
    rw [← hkj] at hj hn
    refine xr_iload_n d_Run_settleTasks_2 rfl ?_
    refine xr_aload_n d_Run_settleTasks_3 rfl ?_
    refine xr_getf d_Run_settleTasks_4 xf_1_27 (hW.run hr) rfl ?_
    refine xr_alen d_Run_settleTasks_7 (hW.tks hr) rfl ?_
    refine xr_icmp_ge (tgt := 48) d_Run_settleTasks_8 rfl (fun c8 => ?_) (fun c8 => ?_)
    · have hje : j = kj C := by
        rcases Nat.lt_or_ge j (kj C) with q | q
        · exact absurd c8 (nI_ge q (by have := hW.2.2.1; omega))
        · omega
      refine xr_return d_Run_settleTasks_48 rfl rfl ?_
      refine ⟨rfl, ?_, ?_, ?_, he⟩
      · rw [← hkj, ← hje, hC]; exact hW
      · rw [← hkj, ← hje, hC]; exact hI
      · rw [← hkj, ← hje, hC]; exact h8
    · have hjl : j < kj C := by
        rcases Nat.lt_or_ge j (kj C) with q | q
        · exact q
        · exact absurd (nI_le q (by have := hW.2.2.1; omega)) c8
      have hxj := k_okx hW hr hjl
      have hm : (12 * r + j) % 12 = j := kx_m (by have := hW.2.2.1; omega)
      refine xr_aload_n d_Run_settleTasks_11 rfl ?_
      refine xr_getf d_Run_settleTasks_12 xf_1_27 (hW.run hr) rfl ?_
      refine xr_iload_n d_Run_settleTasks_15 rfl ?_
      refine kr_tks (j := j) hW hr d_Run_settleTasks_16 rfl hjl ?_
      refine xr_getf d_Run_settleTasks_17 xf_1_35 (hW.tsk hxj) rfl ?_
      refine xr_if_ne (tgt := 42) d_Run_settleTasks_20 rfl (fun c20 => ?_) (fun c20 => ?_)
      · have hnx : k_settleN s (12 * r + (j + 1)) = C := hk.trans (if_neg (fun q => c20 q.2))
        refine xr_iinc1 d_Run_settleTasks_42 rfl ?_
        refine xr_goto (tgt := 2) d_Run_settleTasks_45 rfl ?_
        rw [nI_1]
        exact ih (j + 1) _ (by rw [hnx]; exact hW) (by rw [hnx]; exact hI) (by rw [hnx]; exact h8) he (by omega) (by omega)
      · refine xr_aload_n d_Run_settleTasks_23 rfl ?_
        refine xr_getf d_Run_settleTasks_24 xf_1_27 (hW.run hr) rfl ?_
        refine xr_iload_n d_Run_settleTasks_27 rfl ?_
        refine kr_tks (j := j) hW hr d_Run_settleTasks_28 rfl hjl ?_
        refine xr_aload_n d_Run_settleTasks_29 rfl ?_
        refine xr_aload_n d_Run_settleTasks_30 rfl ?_
        refine xr_getf d_Run_settleTasks_31 xf_1_27 (hW.run hr) rfl ?_
        refine xr_iload_n d_Run_settleTasks_34 rfl ?_
        refine kr_tks (j := j) hW hr d_Run_settleTasks_35 rfl hjl ?_
        refine xr_V1i d_Run_settleTasks_36 xv_1_59 (hW.run hr) rfl rfl (Nat.le_of_ble_eq_true rfl) (by decide) (s_saw hW hr hjl (hI.2.2.2.2.2.2.2.2 _)) (fun v h1 h9 => ?_)
        obtain ⟨rfl, e9⟩ := h9
        have e9 := e9.symm
        subst e9
        have hd : (12 * r + j) / 12 = r := kx_d (by have := hI.1.1; omega)
        have hb := h8 _ hxj c20
        rw [hd, hm] at hb
        rw [hI.saw hjl hb]
        refine kr_pt (f := 9) hW hxj d_Run_settleTasks_39 xf_1_35 (by decide) (fun h2 hW he2 => ?_)
        have hnx : k_settleN s (12 * r + (j + 1)) = kw C 9 (12 * r + j) (k_bec C r j) := by
          refine hk.trans ?_
          unfold k_set1
          rw [if_pos ⟨hxj.2, c20⟩, hd, hm]
        have hnx2 : kw C 9 (12 * r + j) (k_bec C r j) = k_set1 C (12 * r + j) := hnx.symm.trans hk
        have hI := hI.set hxj.1
        have h8 := h8.set (12 * r + j)
        rw [← hnx2] at hI h8
        have he := he2.trans he
        refine xr_iinc1 d_Run_settleTasks_42 rfl ?_
        refine xr_goto (tgt := 2) d_Run_settleTasks_45 rfl ?_
        rw [nI_1]
        exact ih (j + 1) _ (by rw [hnx]; exact hW) (by rw [hnx]; exact hI) (by rw [hnx]; exact h8) he (by omega) (by omega)
theorem s_settleTasks {g : xm_G} {h : xm_H} {s m : kS} {R : Nat → Option Nat} {A : kA} {r : Nat} (hr : r < kq s) (hW : kW (k_settleN s (12 * r)) R m A h) (hI : kI (k_settleN s (12 * r)) R) (h8 : kI8 (k_settleN s (12 * r))) : xm_S g 3 m_Run_settleTasks (xm_entry m_Run_settleTasks [.ref (A 3 r)]) h (xq_v fun h' => kW (k_settleN s (12 * r + kj s)) R m A h' ∧ kI (k_settleN s (12 * r + kj s)) R ∧ kI8 (k_settleN s (12 * r + kj s)) ∧ h'.2 = h.2) := by
  show xm_S g 3 m_Run_settleTasks (0, [some (.ref (A 3 r)), none], []) h _
  refine xr_iconst (v := 0) d_Run_settleTasks_0 rfl ?_
  refine xr_istore_n d_Run_settleTasks_1 (Nat.le_of_ble_eq_true rfl) ?_
  exact l_settleTasks (h0 := h) hr (kj s + 1) 0 h hW hI h8 rfl (by omega) (by omega)
theorem l_redoFailed {g : xm_G} {h0 : xm_H} {s m : kS} {A : kA} {R : Nat → Option Nat} {r : Nat} (hr0 : r < kq s)  : ∀ (n : Nat) (j : Nat) (h : xm_H), kW (k_agN s r j) R m A h → kI (k_agN s r j) R → h.2 = h0.2 → j ≤ kj s → kj s < j + n → xm_S g 1 m_Run_redoFailed (4, [some (.ref (A 3 r)), some (.int (k_agC s r j)), some (.int (nI j))], []) h (xq_i fun v h' => v = k_agC s r (kj s) ∧ kW (k_agN s r (kj s)) R m A h' ∧ kI (k_agN s r (kj s)) R ∧ h'.2 = h0.2) := by
  intro n
  induction n with
  | zero => intros; omega
  | succ n ih =>
    intro j h hW hI he hj hn
    have e1 := k_agN_1 s r j
    have hk : k_agN s r (j + 1) = k_ag1 (k_agN s r j) (12 * r + j) := rfl
    have hkC : k_agC s r (j + 1) = if k_re (k_agN s r j) (12 * r + j) then k_agC s r j + 1 else k_agC s r j := rfl
    generalize hC : k_agN s r j = C at *
    have hr : r < kq C := by rw [show kq C = kq s from congrArg (fun z => z.2.2) e1]; exact hr0
    have hkj : kj C = kj s := congrArg (fun z => z.1) e1
    rw [← hkj] at hj hn
    refine xr_iload_n d_Run_redoFailed_4 rfl ?_
    refine xr_aload_n d_Run_redoFailed_5 rfl ?_
    refine xr_getf d_Run_redoFailed_6 xf_1_27 (hW.run hr) rfl ?_
    refine xr_alen d_Run_redoFailed_9 (hW.tks hr) rfl ?_
    refine xr_icmp_ge (tgt := 57) d_Run_redoFailed_10 rfl (fun c10 => ?_) (fun c10 => ?_)
    · have hje : j = kj C := by
        rcases Nat.lt_or_ge j (kj C) with q | q
        · exact absurd c10 (nI_ge q (by have := hW.2.2.1; omega))
        · omega
      refine xr_iload_n d_Run_redoFailed_57 rfl ?_
      refine xr_ireturn d_Run_redoFailed_58 rfl rfl rfl ?_
      refine ⟨_, rfl, by rw [← hkj, ← hje], ?_, ?_, he⟩
      · rw [← hkj, ← hje, hC]; exact hW
      · rw [← hkj, ← hje, hC]; exact hI
    · have hjl : j < kj C := by
        rcases Nat.lt_or_ge j (kj C) with q | q
        · exact q
        · exact absurd (nI_le q (by have := hW.2.2.1; omega)) c10
      have hxj := k_okx hW hr hjl
      have hm : (12 * r + j) % 12 = j := kx_m (by have := hW.2.2.1; omega)
      refine xr_aload_n d_Run_redoFailed_13 rfl ?_
      refine xr_getf d_Run_redoFailed_14 xf_1_27 (hW.run hr) rfl ?_
      refine xr_iload_n d_Run_redoFailed_17 rfl ?_
      refine kr_tks (j := j) hW hr d_Run_redoFailed_18 rfl hjl ?_
      refine xr_getf d_Run_redoFailed_19 xf_1_35 (hW.tsk hxj) rfl ?_
      refine xr_iconst (v := 4) d_Run_redoFailed_22 rfl ?_
      refine xr_icmp_eq (tgt := 39) d_Run_redoFailed_23 rfl (fun c23 => ?_) (fun c23 => ?_)
      · have hre : k_re C (12 * r + j) := Or.inl c23
        have hnx : k_agN s r (j + 1) = kw (kw (kw C 9 (12 * r + j) 0) 12 (12 * r + j) 0) 14 (12 * r + j) 0 := hk.trans (if_pos hre)
        have hnc : k_agC s r (j + 1) = k_agC s r j + 1 := hkC.trans (if_pos hre)
        refine xr_aload_n d_Run_redoFailed_39 rfl ?_
        refine xr_getf d_Run_redoFailed_40 xf_1_27 (hW.run hr) rfl ?_
        refine xr_iload_n d_Run_redoFailed_43 rfl ?_
        refine kr_tks (j := j) hW hr d_Run_redoFailed_44 rfl hjl ?_
        refine xr_V0v d_Run_redoFailed_45 xv_1_56 (hW.tsk hxj) rfl (Nat.le_of_ble_eq_true rfl) (by decide) (s_waitAgain hW hxj) (fun h1 h9 => ?_)
        obtain ⟨hW, he1⟩ := h9
        have he := he1.trans he
        have hI := hI.again hxj hre
        refine xr_iinc1 d_Run_redoFailed_48 rfl ?_
        refine xr_iinc1 d_Run_redoFailed_51 rfl ?_
        refine xr_goto (tgt := 4) d_Run_redoFailed_54 rfl ?_
        rw [nI_1, ← hnc]
        exact ih (j + 1) _ (by rw [hnx]; exact hW) (by rw [hnx]; exact hI) he (by omega) (by omega)
      · refine xr_aload_n d_Run_redoFailed_26 rfl ?_
        refine xr_getf d_Run_redoFailed_27 xf_1_27 (hW.run hr) rfl ?_
        refine xr_iload_n d_Run_redoFailed_30 rfl ?_
        refine kr_tks (j := j) hW hr d_Run_redoFailed_31 rfl hjl ?_
        refine xr_getf d_Run_redoFailed_32 xf_1_35 (hW.tsk hxj) rfl ?_
        refine xr_iconst (v := 5) d_Run_redoFailed_35 rfl ?_
        refine xr_icmp_ne (tgt := 51) d_Run_redoFailed_36 rfl (fun c36 => ?_) (fun c36 => ?_)
        · have hnx : k_agN s r (j + 1) = C := hk.trans (if_neg (fun q => q.elim c23 c36))
          have hnc : k_agC s r (j + 1) = k_agC s r j := hkC.trans (if_neg (fun q => q.elim c23 c36))
          refine xr_iinc1 d_Run_redoFailed_51 rfl ?_
          refine xr_goto (tgt := 4) d_Run_redoFailed_54 rfl ?_
          rw [nI_1, ← hnc]
          exact ih (j + 1) _ (by rw [hnx]; exact hW) (by rw [hnx]; exact hI) he (by omega) (by omega)
        · have hre : k_re C (12 * r + j) := Or.inr c36
          have hnx : k_agN s r (j + 1) = kw (kw (kw C 9 (12 * r + j) 0) 12 (12 * r + j) 0) 14 (12 * r + j) 0 := hk.trans (if_pos hre)
          have hnc : k_agC s r (j + 1) = k_agC s r j + 1 := hkC.trans (if_pos hre)
          refine xr_aload_n d_Run_redoFailed_39 rfl ?_
          refine xr_getf d_Run_redoFailed_40 xf_1_27 (hW.run hr) rfl ?_
          refine xr_iload_n d_Run_redoFailed_43 rfl ?_
          refine kr_tks (j := j) hW hr d_Run_redoFailed_44 rfl hjl ?_
          refine xr_V0v d_Run_redoFailed_45 xv_1_56 (hW.tsk hxj) rfl (Nat.le_of_ble_eq_true rfl) (by decide) (s_waitAgain hW hxj) (fun h1 h9 => ?_)
          obtain ⟨hW, he1⟩ := h9
          have he := he1.trans he
          have hI := hI.again hxj hre
          refine xr_iinc1 d_Run_redoFailed_48 rfl ?_
          refine xr_iinc1 d_Run_redoFailed_51 rfl ?_
          refine xr_goto (tgt := 4) d_Run_redoFailed_54 rfl ?_
          rw [nI_1, ← hnc]
          exact ih (j + 1) _ (by rw [hnx]; exact hW) (by rw [hnx]; exact hI) he (by omega) (by omega)
theorem s_redoFailed {g : xm_G} {h : xm_H} {s m : kS} {R : Nat → Option Nat} {A : kA} {r : Nat} (hW : kW s R m A h) (hr : r < kq s) (hI : kI s R) : xm_S g 1 m_Run_redoFailed (xm_entry m_Run_redoFailed [.ref (A 3 r)]) h (xq_i fun v h' => v = k_agC s r (kj s) ∧ kW (k_agN s r (kj s)) R m A h' ∧ kI (k_agN s r (kj s)) R ∧ h'.2 = h.2) := by
  show xm_S g 1 m_Run_redoFailed (0, [some (.ref (A 3 r)), none, none], []) h _
  refine xr_iconst (v := 0) d_Run_redoFailed_0 rfl ?_
  refine xr_istore_n d_Run_redoFailed_1 (Nat.le_of_ble_eq_true rfl) ?_
  refine xr_iconst (v := 0) d_Run_redoFailed_2 rfl ?_
  refine xr_istore_n d_Run_redoFailed_3 (Nat.le_of_ble_eq_true rfl) ?_
  exact l_redoFailed (h0 := h) hr (kj s + 1) 0 h hW hI rfl (by omega) (by omega)
theorem l_first {g : xm_G} {h : xm_H} {c m : kS} {R : Nat → Option Nat} {A : kA} (hW : kW c R m A h) {r u : Nat} (hr : r < kq c) (hu : u < kr c) : ∀ (n : Nat) (j : Nat), j ≤ kj c → kj c < j + n → (∀ k, k < j → ¬ k_fit c u (12 * r + k)) → xm_S g 0 m_Run_firstReadyFor (2, [some (.ref (A 3 r)), some (.ref (A 2 u)), some (.int (nI j))], []) h (xq_r fun o h' => h' = h ∧ ((o = none ∧ ∀ k, k < kj c → ¬ k_fit c u (12 * r + k)) ∨ ∃ j, j < kj c ∧ o = some (A 5 (12 * r + j)) ∧ k_fit c u (12 * r + j) ∧ ∀ k, k < j → ¬ k_fit c u (12 * r + k))) := by
  intro n
  induction n with
  | zero => intros; omega
  | succ n ih =>
    intro j h1 h2 hI
    refine xr_iload_n d_Run_firstReadyFor_2 rfl ?_
    refine xr_aload_n d_Run_firstReadyFor_3 rfl ?_
    refine xr_getf d_Run_firstReadyFor_4 xf_1_27 (hW.run hr) rfl ?_
    refine xr_alen d_Run_firstReadyFor_7 (hW.tks hr) rfl ?_
    refine xr_icmp_ge (tgt := 59) d_Run_firstReadyFor_8 rfl (fun c8 => ?_) (fun c8 => ?_)
    · have hje : j = kj c := by
        rcases Nat.lt_or_ge j (kj c) with q | q
        · exact absurd c8 (nI_ge q (by have := hW.2.2.1; omega))
        · omega
      refine xr_null d_Run_firstReadyFor_59 ?_
      refine xr_areturn (v := none) d_Run_firstReadyFor_60 rfl rfl ?_
      exact ⟨_, rfl, rfl, Or.inl ⟨rfl, fun k hk => hI k (by omega)⟩⟩
    · have hjl : j < kj c := by
        rcases Nat.lt_or_ge j (kj c) with q | q
        · exact q
        · exact absurd (nI_le q (by have := hW.2.2.1; omega)) c8
      have hxj := k_okx hW hr hjl
      refine xr_aload_n d_Run_firstReadyFor_11 rfl ?_
      refine xr_getf d_Run_firstReadyFor_12 xf_1_27 (hW.run hr) rfl ?_
      refine xr_iload_n d_Run_firstReadyFor_15 rfl ?_
      refine kr_tks (j := j) hW hr d_Run_firstReadyFor_16 rfl hjl ?_
      refine xr_getf d_Run_firstReadyFor_17 xf_1_35 (hW.tsk hxj) rfl ?_
      refine xr_iconst (v := 1) d_Run_firstReadyFor_20 rfl ?_
      refine xr_icmp_ne (tgt := 53) d_Run_firstReadyFor_21 rfl (fun c21 => ?_) (fun c21 => ?_)
      · have hnf : ¬ k_fit c u (12 * r + j) := fun q => c21 q.1
        refine xr_iinc1 d_Run_firstReadyFor_53 rfl ?_
        refine xr_goto (tgt := 2) d_Run_firstReadyFor_56 rfl ?_
        rw [nI_1]
        exact ih (j + 1) (by omega) (by omega) (lt_s hI hnf)
      · refine xr_aload_n d_Run_firstReadyFor_24 rfl ?_
        refine xr_getf d_Run_firstReadyFor_25 xf_1_27 (hW.run hr) rfl ?_
        refine xr_iload_n d_Run_firstReadyFor_28 rfl ?_
        refine kr_tks (j := j) hW hr d_Run_firstReadyFor_29 rfl hjl ?_
        refine xr_getf d_Run_firstReadyFor_30 xf_1_44 (hW.tsk hxj) rfl ?_
        refine xr_getf d_Run_firstReadyFor_33 xf_1_70 (hW.job hxj.2) rfl ?_
        refine xr_aload_n d_Run_firstReadyFor_36 rfl ?_
        refine xr_getf d_Run_firstReadyFor_37 xf_1_73 (hW.rnr hu) rfl ?_
        refine xr_iconst (v := -1) d_Run_firstReadyFor_40 rfl ?_
        refine xr_ixor d_Run_firstReadyFor_41 ?_
        refine xr_iand d_Run_firstReadyFor_42 ?_
        refine xr_if_ne (tgt := 53) d_Run_firstReadyFor_43 rfl (fun c43 => ?_) (fun c43 => ?_)
        · have hnf : ¬ k_fit c u (12 * r + j) := fun q => c43 q.2
          refine xr_iinc1 d_Run_firstReadyFor_53 rfl ?_
          refine xr_goto (tgt := 2) d_Run_firstReadyFor_56 rfl ?_
          rw [nI_1]
          exact ih (j + 1) (by omega) (by omega) (lt_s hI hnf)
        · refine xr_aload_n d_Run_firstReadyFor_46 rfl ?_
          refine xr_getf d_Run_firstReadyFor_47 xf_1_27 (hW.run hr) rfl ?_
          refine xr_iload_n d_Run_firstReadyFor_50 rfl ?_
          refine kr_tks (j := j) hW hr d_Run_firstReadyFor_51 rfl hjl ?_
          refine xr_areturn (v := some (A 5 (12 * r + j))) d_Run_firstReadyFor_52 rfl rfl ?_
          exact ⟨_, rfl, rfl, Or.inr ⟨j, hjl, rfl, ⟨c21, c43⟩, hI⟩⟩
theorem s_first {g : xm_G} {h : xm_H} {c m : kS} {R : Nat → Option Nat} {A : kA} (hW : kW c R m A h) {r u : Nat} (hr : r < kq c) (hu : u < kr c) : xm_S g 0 m_Run_firstReadyFor (xm_entry m_Run_firstReadyFor [.ref (A 3 r), .ref (A 2 u)]) h (xq_r fun o h' => h' = h ∧ ((o = none ∧ ∀ k, k < kj c → ¬ k_fit c u (12 * r + k)) ∨ ∃ j, j < kj c ∧ o = some (A 5 (12 * r + j)) ∧ k_fit c u (12 * r + j) ∧ ∀ k, k < j → ¬ k_fit c u (12 * r + k))) := by
  show xm_S g 0 m_Run_firstReadyFor (0, [some (.ref (A 3 r)), some (.ref (A 2 u)), none], []) h _
  refine xr_iconst (v := 0) d_Run_firstReadyFor_0 rfl ?_
  refine xr_istore_n d_Run_firstReadyFor_1 (Nat.le_of_ble_eq_true rfl) ?_
  exact l_first hW hr hu (kj c + 1) 0 (by omega) (by omega) lt_0
theorem l_art {g : xm_G} {h : xm_H} {c m : kS} {R : Nat → Option Nat} {A : kA} (hW : kW c R m A h) {r j : Nat} (hr : r < kq c) (hj : j < kj c) : ∀ (n : Nat) (i : Nat), i ≤ kj c → kj c < i + n → xm_S g 1 m_Run_artefactsFor (4, [some (.ref (A 3 r)), some (.ref (A 1 j)), some (.int (k_art c r j i)), some (.int (nI i))], []) h (xq_i fun v h' => v = k_art c r j (kj c) ∧ h' = h) := by
  intro n
  induction n with
  | zero => intros; omega
  | succ n ih =>
    intro i h1 h2
    refine xr_iload_n d_Run_artefactsFor_4 rfl ?_
    refine xr_aload_n d_Run_artefactsFor_5 rfl ?_
    refine xr_getf d_Run_artefactsFor_6 xf_1_27 (hW.run hr) rfl ?_
    refine xr_alen d_Run_artefactsFor_9 (hW.tks hr) rfl ?_
    refine xr_icmp_ge (tgt := 39) d_Run_artefactsFor_10 rfl (fun c10 => ?_) (fun c10 => ?_)
    · have hie : i = kj c := by
        rcases Nat.lt_or_ge i (kj c) with q | q
        · exact absurd c10 (nI_ge q (by have := hW.2.2.1; omega))
        · omega
      refine xr_iload_n d_Run_artefactsFor_39 rfl ?_
      refine xr_ireturn d_Run_artefactsFor_40 rfl rfl rfl ?_
      exact ⟨_, rfl, by rw [hie], rfl⟩
    · have hil : i < kj c := by
        rcases Nat.lt_or_ge i (kj c) with q | q
        · exact q
        · exact absurd (nI_le q (by have := hW.2.2.1; omega)) c10
      have hxi := k_okx hW hr hil
      have hk : k_art c r j (i + 1) = if k_bit (kF c 3 j) i then k_art c r j i ^^^ kF c 15 (12 * r + i) else k_art c r j i := rfl
      refine xr_aload_n d_Run_artefactsFor_13 rfl ?_
      refine xr_iload_n d_Run_artefactsFor_14 rfl ?_
      refine xr_V1i d_Run_artefactsFor_15 xv_1_63 (hW.job hj) rfl rfl (Nat.le_of_ble_eq_true rfl) (by decide) (s_isNeeding (k := i) hW hj) (fun v h1 h9 => ?_)
      obtain ⟨rfl, e9⟩ := h9
      have e9 := e9.symm
      subst e9
      refine xr_if_eq (tgt := 33) d_Run_artefactsFor_18 rfl (fun c18 => ?_) (fun c18 => ?_)
      · have hnx := hk.trans (if_neg (kbi_0.mp c18))
        refine xr_iinc1 d_Run_artefactsFor_33 rfl ?_
        refine xr_goto (tgt := 4) d_Run_artefactsFor_36 rfl ?_
        rw [nI_1, ← hnx]
        exact ih (i + 1) (by omega) (by omega)
      · have hnx := hk.trans (if_pos (kbi_n0 c18))
        refine xr_iload_n d_Run_artefactsFor_21 rfl ?_
        refine xr_aload_n d_Run_artefactsFor_22 rfl ?_
        refine xr_getf d_Run_artefactsFor_23 xf_1_27 (hW.run hr) rfl ?_
        refine xr_iload_n d_Run_artefactsFor_26 rfl ?_
        refine kr_tks (j := i) hW hr d_Run_artefactsFor_27 rfl hil ?_
        refine xr_getf d_Run_artefactsFor_28 xf_1_76 (hW.tsk hxi) rfl ?_
        refine xr_ixor d_Run_artefactsFor_31 ?_
        refine xr_istore_n d_Run_artefactsFor_32 (Nat.le_of_ble_eq_true rfl) ?_
        refine xr_iinc1 d_Run_artefactsFor_33 rfl ?_
        refine xr_goto (tgt := 4) d_Run_artefactsFor_36 rfl ?_
        rw [nI_1, ← hnx]
        exact ih (i + 1) (by omega) (by omega)
theorem s_art {g : xm_G} {h : xm_H} {c m : kS} {R : Nat → Option Nat} {A : kA} (hW : kW c R m A h) {r j : Nat} (hr : r < kq c) (hj : j < kj c) : xm_S g 1 m_Run_artefactsFor (xm_entry m_Run_artefactsFor [.ref (A 3 r), .ref (A 1 j)]) h (xq_i fun v h' => v = k_art c r j (kj c) ∧ h' = h) := by
  show xm_S g 1 m_Run_artefactsFor (0, [some (.ref (A 3 r)), some (.ref (A 1 j)), none, none], []) h _
  refine xr_iconst (v := 0) d_Run_artefactsFor_0 rfl ?_
  refine xr_istore_n d_Run_artefactsFor_1 (Nat.le_of_ble_eq_true rfl) ?_
  refine xr_iconst (v := 0) d_Run_artefactsFor_2 rfl ?_
  refine xr_istore_n d_Run_artefactsFor_3 (Nat.le_of_ble_eq_true rfl) ?_
  exact l_art hW hr hj (kj c + 1) 0 (by omega) (by omega)
end
section
/-! the class's own methods: finding, settling, looking -/
theorem s_isPerson {g : xm_G} {h : xm_H} {p : Int32} : xm_S g 0 m_S_isPerson (xm_entry m_S_isPerson [.int p]) h (xq_i fun v h' => v = kbi (k_in p 8) ∧ h' = h) := by
  show xm_S g 0 m_S_isPerson (0, [some (.int p)], []) h _
  refine xr_iload_n d_S_isPerson_0 rfl ?_
  refine xr_if_lt (tgt := 14) d_S_isPerson_1 rfl (fun c1 => ?_) (fun c1 => ?_)
  · have w : kbi (k_in p 8) = 0 := kbi_f (fun q => q.1 c1)
    refine xr_iconst (v := 0) d_S_isPerson_14 rfl ?_
    refine xr_ireturn d_S_isPerson_15 rfl rfl rfl ?_
    exact ⟨_, rfl, w.symm, rfl⟩
  · refine xr_iload_n d_S_isPerson_4 rfl ?_
    refine xr_bipush (v := 8) d_S_isPerson_5 rfl ?_
    refine xr_icmp_ge (tgt := 14) d_S_isPerson_7 rfl (fun c7 => ?_) (fun c7 => ?_)
    · have w : kbi (k_in p 8) = 0 := kbi_f (fun q => q.2 c7)
      refine xr_iconst (v := 0) d_S_isPerson_14 rfl ?_
      refine xr_ireturn d_S_isPerson_15 rfl rfl rfl ?_
      exact ⟨_, rfl, w.symm, rfl⟩
    · have w : kbi (k_in p 8) = 1 := kbi_t ⟨c1, c7⟩
      refine xr_iconst (v := 1) d_S_isPerson_10 rfl ?_
      refine xr_goto (tgt := 15) d_S_isPerson_11 rfl ?_
      refine xr_ireturn d_S_isPerson_15 rfl rfl rfl ?_
      exact ⟨_, rfl, w.symm, rfl⟩
theorem s_findRun {g : xm_G} {h : xm_H} {c m : kS} {R : Nat → Option Nat} {A : kA} (hW : kW c R m A h) {v : Int32} : xm_S g 0 m_S_findRun (xm_entry m_S_findRun [.ref (A 0 0), .int v]) h (xq_r fun o h' => h' = h ∧ ((o = none ∧ ¬ k_in v (kq c)) ∨ ∃ r, r < kq c ∧ v = nI r ∧ o = some (A 3 r))) := by
  show xm_S g 0 m_S_findRun (0, [some (.ref (A 0 0)), some (.int v)], []) h _
  have hb : kq c < 2 ^ 31 := by have := hW.2.2; omega
  refine xr_iload_n d_S_findRun_0 rfl ?_
  refine xr_if_lt (tgt := 21) d_S_findRun_1 rfl (fun c1 => ?_) (fun c1 => ?_)
  · have hout : ¬ k_in v (kq c) := fun q => q.1 c1
    refine xr_null d_S_findRun_21 ?_
    refine xr_areturn (v := none) d_S_findRun_22 rfl rfl ?_
    first | exact ⟨_, rfl, rfl, Or.inl ⟨rfl, hout⟩⟩ | exact ⟨_, rfl, rfl, Or.inr ⟨r, hr, rfl, rfl⟩⟩
  · refine xr_iload_n d_S_findRun_4 rfl ?_
    refine xr_aload_n d_S_findRun_5 rfl ?_
    refine xr_getf d_S_findRun_6 xf_4_34 hW.this rfl ?_
    refine xr_icmp_ge (tgt := 21) d_S_findRun_9 rfl (fun c9 => ?_) (fun c9 => ?_)
    · have hout : ¬ k_in v (kq c) := fun q => q.2 c9
      refine xr_null d_S_findRun_21 ?_
      refine xr_areturn (v := none) d_S_findRun_22 rfl rfl ?_
      first | exact ⟨_, rfl, rfl, Or.inl ⟨rfl, hout⟩⟩ | exact ⟨_, rfl, rfl, Or.inr ⟨r, hr, rfl, rfl⟩⟩
    · obtain ⟨r, hr, rfl⟩ := k_in_ex hb ⟨c1, c9⟩
      refine xr_aload_n d_S_findRun_12 rfl ?_
      refine xr_getf d_S_findRun_13 xf_4_23 hW.this rfl ?_
      refine xr_iload_n d_S_findRun_16 rfl ?_
      refine kr_runs (r := r) hW d_S_findRun_17 rfl hr ?_
      refine xr_goto (tgt := 22) d_S_findRun_18 rfl ?_
      refine xr_areturn (v := some (A 3 r)) d_S_findRun_22 rfl rfl ?_
      first | exact ⟨_, rfl, rfl, Or.inl ⟨rfl, hout⟩⟩ | exact ⟨_, rfl, rfl, Or.inr ⟨r, hr, rfl, rfl⟩⟩
theorem s_findRunner {g : xm_G} {h : xm_H} {c m : kS} {R : Nat → Option Nat} {A : kA} (hW : kW c R m A h) {v : Int32} : xm_S g 0 m_S_findRunner (xm_entry m_S_findRunner [.ref (A 0 0), .int v]) h (xq_r fun o h' => h' = h ∧ ((o = none ∧ ¬ k_in v (kr c)) ∨ ∃ r, r < kr c ∧ v = nI r ∧ o = some (A 2 r))) := by
  show xm_S g 0 m_S_findRunner (0, [some (.ref (A 0 0)), some (.int v)], []) h _
  have hb : kr c < 2 ^ 31 := by have := hW.2.2; omega
  refine xr_iload_n d_S_findRunner_0 rfl ?_
  refine xr_if_lt (tgt := 21) d_S_findRunner_1 rfl (fun c1 => ?_) (fun c1 => ?_)
  · have hout : ¬ k_in v (kr c) := fun q => q.1 c1
    refine xr_null d_S_findRunner_21 ?_
    refine xr_areturn (v := none) d_S_findRunner_22 rfl rfl ?_
    first | exact ⟨_, rfl, rfl, Or.inl ⟨rfl, hout⟩⟩ | exact ⟨_, rfl, rfl, Or.inr ⟨r, hr, rfl, rfl⟩⟩
  · refine xr_iload_n d_S_findRunner_4 rfl ?_
    refine xr_aload_n d_S_findRunner_5 rfl ?_
    refine xr_getf d_S_findRunner_6 xf_4_31 hW.this rfl ?_
    refine xr_icmp_ge (tgt := 21) d_S_findRunner_9 rfl (fun c9 => ?_) (fun c9 => ?_)
    · have hout : ¬ k_in v (kr c) := fun q => q.2 c9
      refine xr_null d_S_findRunner_21 ?_
      refine xr_areturn (v := none) d_S_findRunner_22 rfl rfl ?_
      first | exact ⟨_, rfl, rfl, Or.inl ⟨rfl, hout⟩⟩ | exact ⟨_, rfl, rfl, Or.inr ⟨r, hr, rfl, rfl⟩⟩
    · obtain ⟨r, hr, rfl⟩ := k_in_ex hb ⟨c1, c9⟩
      refine xr_aload_n d_S_findRunner_12 rfl ?_
      refine xr_getf d_S_findRunner_13 xf_4_17 hW.this rfl ?_
      refine xr_iload_n d_S_findRunner_16 rfl ?_
      refine kr_rnrs (u := r) hW d_S_findRunner_17 rfl hr ?_
      refine xr_goto (tgt := 22) d_S_findRunner_18 rfl ?_
      refine xr_areturn (v := some (A 2 r)) d_S_findRunner_22 rfl rfl ?_
      first | exact ⟨_, rfl, rfl, Or.inl ⟨rfl, hout⟩⟩ | exact ⟨_, rfl, rfl, Or.inr ⟨r, hr, rfl, rfl⟩⟩
theorem s_findTask {g : xm_G} {h : xm_H} {c m : kS} {R : Nat → Option Nat} {A : kA} (hW : kW c R m A h) {v w : Int32} : xm_S g 1 m_S_findTask (xm_entry m_S_findTask [.ref (A 0 0), .int v, .int w]) h (xq_r fun o h' => h' = h ∧ ((o = none ∧ ¬ (k_in v (kq c) ∧ k_in w (kj c))) ∨ ∃ r j, r < kq c ∧ j < kj c ∧ v = nI r ∧ w = nI j ∧ o = some (A 5 (12 * r + j)))) := by
  show xm_S g 1 m_S_findTask (0, [some (.ref (A 0 0)), some (.int v), some (.int w), none], []) h _
  refine xr_aload_n d_S_findTask_0 rfl ?_
  refine xr_iload_n d_S_findTask_1 rfl ?_
  refine xr_V1r d_S_findTask_2 xv_4_133 hW.this rfl rfl (Nat.le_of_ble_eq_true rfl) (by decide) (s_findRun hW) (fun o h1 h9 => ?_)
  obtain ⟨e9, h9⟩ := h9
  have e9 := e9.symm
  subst e9
  have hb : kj c < 2 ^ 31 := by have := hW.2.2; omega
  rcases h9 with ⟨rfl, hno⟩ | ⟨r, hr, rfl, rfl⟩
  · have hout : ¬ (k_in v (kq c) ∧ k_in w (kj c)) := fun q => hno q.1
    refine xr_astore_nN d_S_findTask_5 (Nat.le_of_ble_eq_true rfl) ?_
    refine xr_aload_nN d_S_findTask_6 rfl ?_
    refine xr_ifnullN (tgt := 23) d_S_findTask_7 rfl ?_
    refine xr_null d_S_findTask_23 ?_
    refine xr_areturn (v := none) d_S_findTask_24 rfl rfl ?_
    exact ⟨_, rfl, rfl, Or.inl ⟨rfl, hout⟩⟩
  · have hq := k_in_of hr (by have := hW.2.2; omega)
    refine xr_astore_n d_S_findTask_5 (Nat.le_of_ble_eq_true rfl) ?_
    refine xr_aload_n d_S_findTask_6 rfl ?_
    refine xr_ifnull d_S_findTask_7 ?_
    refine xr_iload_n d_S_findTask_10 rfl ?_
    refine xr_if_lt (tgt := 23) d_S_findTask_11 rfl (fun c11 => ?_) (fun c11 => ?_)
    · have hout : ¬ (k_in (nI r) (kq c) ∧ k_in w (kj c)) := fun q => q.2.1 c11
      refine xr_null d_S_findTask_23 ?_
      refine xr_areturn (v := none) d_S_findTask_24 rfl rfl ?_
      exact ⟨_, rfl, rfl, Or.inl ⟨rfl, hout⟩⟩
    · refine xr_iload_n d_S_findTask_14 rfl ?_
      refine xr_aload_n d_S_findTask_15 rfl ?_
      refine xr_getf d_S_findTask_16 xf_4_171 (hW.run hr) rfl ?_
      refine xr_alen d_S_findTask_19 (hW.tks hr) rfl ?_
      refine xr_icmp_lt (tgt := 25) d_S_findTask_20 rfl (fun c20 => ?_) (fun c20 => ?_)
      · obtain ⟨j, hj, rfl⟩ := k_in_ex hb ⟨c11, ki_nle.mpr c20⟩
        refine xr_aload_n d_S_findTask_25 rfl ?_
        refine xr_getf d_S_findTask_26 xf_4_171 (hW.run hr) rfl ?_
        refine xr_iload_n d_S_findTask_29 rfl ?_
        refine kr_tks (j := j) hW hr d_S_findTask_30 rfl hj ?_
        refine xr_areturn (v := some (A 5 (12 * r + j))) d_S_findTask_31 rfl rfl ?_
        exact ⟨_, rfl, rfl, Or.inr ⟨r, j, hr, hj, rfl, rfl, rfl⟩⟩
      · have hout : ¬ (k_in (nI r) (kq c) ∧ k_in w (kj c)) := fun q => q.2.2 (ki_nlt.mp c20)
        refine xr_null d_S_findTask_23 ?_
        refine xr_areturn (v := none) d_S_findTask_24 rfl rfl ?_
        exact ⟨_, rfl, rfl, Or.inl ⟨rfl, hout⟩⟩
theorem k_settleN_kq (s : kS) (n : Nat) : kq (k_settleN s n) = kq s := congrArg (fun z => z.2.2) (k_settleN_1 s n)
theorem l_settle {g : xm_G} {h0 : xm_H} {s m : kS} {A : kA} {R : Nat → Option Nat}  : ∀ (n : Nat) (r : Nat) (h : xm_H), kW (k_settleN s (12 * r)) R m A h → kI (k_settleN s (12 * r)) R → kI8 (k_settleN s (12 * r)) → h.2 = h0.2 → r ≤ kq s → kq s < r + n → xm_S g 4 m_S_settle (2, [some (.ref (A 0 0)), some (.int (nI r))], []) h (xq_v fun h' => kW (k_settle s) R m A h' ∧ kI (k_settle s) R ∧ kI8 (k_settle s) ∧ h'.2 = h0.2) := by
  intro n
  induction n with
  | zero => intros; omega
  | succ n ih =>
    intro r h hW hI h8 he hr1 hn
    have hb : kq s ≤ 10 := by have := hI.1.2.2; rw [k_settleN_kq] at this; exact this
    have hkq := k_settleN_kq s (12 * r)
    refine xr_iload_n d_S_settle_2 rfl ?_
    refine xr_aload_n d_S_settle_3 rfl ?_
    refine xr_getf d_S_settle_4 xf_4_34 hW.this rfl ?_
    refine xr_icmp_ge (tgt := 25) d_S_settle_7 rfl (fun c7 => ?_) (fun c7 => ?_)
    · rw [hkq] at c7
      have hre : r = kq s := by
        rcases Nat.lt_or_ge r (kq s) with q | q
        · exact absurd c7 (nI_ge q (by omega))
        · omega
      refine xr_return d_S_settle_25 rfl rfl ?_
      refine ⟨rfl, ?_⟩
      subst hre
      exact ⟨hW, hI, h8, he⟩
    · rw [hkq] at c7
      have hr : r < kq s := by
        rcases Nat.lt_or_ge r (kq s) with q | q
        · exact q
        · exact absurd (nI_le q (by omega)) c7
      have hr' : r < kq (k_settleN s (12 * r)) := by rw [hkq]; exact hr
      refine xr_aload_n d_S_settle_10 rfl ?_
      refine xr_getf d_S_settle_11 xf_4_23 hW.this rfl ?_
      refine xr_iload_n d_S_settle_14 rfl ?_
      refine kr_runs (r := r) hW d_S_settle_15 rfl hr' ?_
      refine xr_V0v d_S_settle_16 xv_4_184 (hW.run hr') rfl (Nat.le_of_ble_eq_true rfl) (by decide) (s_settleTasks hr hW hI h8) (fun h1 h9 => ?_)
      obtain ⟨hW, hI, h8, he1⟩ := h9
      have h12 : kj s ≤ 12 := by have := hI.1.1; rw [show kj (k_settleN s (12 * r + kj s)) = kj s from congrArg (fun z => z.1) (k_settleN_1 s _)] at this; exact this
      have ht := k_settle_tail s r h12 (12 - kj s) (by omega)
      rw [show 12 * r + (kj s + (12 - kj s)) = 12 * (r + 1) by omega] at ht
      rw [← ht] at hW hI h8
      refine xr_iinc1 d_S_settle_19 rfl ?_
      refine xr_goto (tgt := 2) d_S_settle_22 rfl ?_
      rw [nI_1]
      exact ih (r + 1) h1 hW hI h8 (he1.trans he) (by omega) (by omega)
theorem s_settle {g : xm_G} {h : xm_H} {s m : kS} {R : Nat → Option Nat} {A : kA} (hW : kW s R m A h) (hI : kI s R) (h8 : kI8 s) : xm_S g 4 m_S_settle (xm_entry m_S_settle [.ref (A 0 0)]) h (xq_v fun h' => kW (k_settle s) R m A h' ∧ kI (k_settle s) R ∧ kI8 (k_settle s) ∧ h'.2 = h.2) := by
  show xm_S g 4 m_S_settle (0, [some (.ref (A 0 0)), none], []) h _
  refine xr_iconst (v := 0) d_S_settle_0 rfl ?_
  refine xr_istore_n d_S_settle_1 (Nat.le_of_ble_eq_true rfl) ?_
  exact l_settle (h0 := h) (kq s + 1) 0 h hW hI h8 rfl (by omega) (by omega)
theorem p_state {g : xm_G} {h : xm_H} {c m : kS} {R : Nat → Option Nat} {A : kA} (hW : kW c R m A h) {a b : Int32} (hI : kI c R) (h8 : kI8 c) : xm_S g 2 m_S_state (xm_entry m_S_state [.ref (A 0 0), .int a, .int b]) h (xq_i fun v h' => v = k_state c a b ∧ kQ c m A h h') := by
  show xm_S g 2 m_S_state (0, [some (.ref (A 0 0)), some (.int a), some (.int b), none], []) h _
  refine xr_aload_n d_S_state_0 rfl ?_
  refine xr_iload_n d_S_state_1 rfl ?_
  refine xr_iload_n d_S_state_2 rfl ?_
  refine xr_V2r d_S_state_3 xv_4_70 hW.this rfl rfl rfl (Nat.le_of_ble_eq_true rfl) (by decide) (s_findTask hW) (fun o h1 h9 => ?_)
  obtain ⟨e9, h9⟩ := h9
  have e9 := e9.symm
  subst e9
  have hb1 := hW.2.2.1
  have hb2 := hW.2.2.2.2
  rcases h9 with ⟨rfl, hout⟩ | ⟨r, j, hr, hj, rfl, rfl, rfl⟩
  · have w : k_state c a b = -1 := if_neg hout
    refine xr_astore_nN d_S_state_6 (Nat.le_of_ble_eq_true rfl) ?_
    refine xr_aload_nN d_S_state_7 rfl ?_
    refine xr_ifnonnullN d_S_state_8 ?_
    refine xr_iconst (v := -1) d_S_state_11 rfl ?_
    refine xr_goto (tgt := 19) d_S_state_12 rfl ?_
    refine xr_ireturn d_S_state_19 rfl rfl rfl ?_
    exact ⟨_, rfl, w.symm, kQ.of hW hI h8 rfl⟩
  · have hx := k_okx hW hr hj
    have hin : k_in (nI r) (kq c) ∧ k_in (nI j) (kj c) := ⟨k_in_of hr (by omega), k_in_of hj (by omega)⟩
    have hnr : k_n (nI r) = r := nI_clamp (by omega)
    have hnj : k_n (nI j) = j := nI_clamp (by omega)
    have w : k_state c (nI r) (nI j) = kF c 9 (12 * r + j) := by unfold k_state; rw [if_pos hin, hnr, hnj]
    refine xr_astore_n d_S_state_6 (Nat.le_of_ble_eq_true rfl) ?_
    refine xr_aload_n d_S_state_7 rfl ?_
    refine xr_ifnonnull (tgt := 15) d_S_state_8 rfl ?_
    refine xr_aload_n d_S_state_15 rfl ?_
    refine xr_getf d_S_state_16 xf_4_149 (hW.tsk hx) rfl ?_
    refine xr_ireturn d_S_state_19 rfl rfl rfl ?_
    exact ⟨_, rfl, w.symm, kQ.of hW hI h8 rfl⟩
theorem p_verdict {g : xm_G} {h : xm_H} {c m : kS} {R : Nat → Option Nat} {A : kA} (hW : kW c R m A h) {a : Int32} (hI : kI c R) (h8 : kI8 c) : xm_S g 3 m_S_verdict (xm_entry m_S_verdict [.ref (A 0 0), .int a]) h (xq_i fun v h' => v = k_verd c a ∧ kQ c m A h h') := by
  show xm_S g 3 m_S_verdict (0, [some (.ref (A 0 0)), some (.int a), none], []) h _
  refine xr_aload_n d_S_verdict_0 rfl ?_
  refine xr_iload_n d_S_verdict_1 rfl ?_
  refine xr_V1r d_S_verdict_2 xv_4_133 hW.this rfl rfl (Nat.le_of_ble_eq_true rfl) (by decide) (s_findRun hW) (fun o h1 h9 => ?_)
  obtain ⟨e9, h9⟩ := h9
  have e9 := e9.symm
  subst e9
  have hb1 := hW.2.2.1
  have hb2 := hW.2.2.2.2
  rcases h9 with ⟨rfl, hout⟩ | ⟨r, hr, rfl, rfl⟩
  · have w : k_verd c a = -1 := if_neg hout
    refine xr_astore_nN d_S_verdict_5 (Nat.le_of_ble_eq_true rfl) ?_
    refine xr_aload_nN d_S_verdict_6 rfl ?_
    refine xr_ifnonnullN d_S_verdict_7 ?_
    refine xr_iconst (v := -1) d_S_verdict_10 rfl ?_
    refine xr_goto (tgt := 18) d_S_verdict_11 rfl ?_
    refine xr_ireturn d_S_verdict_18 rfl rfl rfl ?_
    exact ⟨_, rfl, w.symm, kQ.of hW hI h8 rfl⟩
  · have hin := k_in_of hr (by omega)
    have hnr : k_n (nI r) = r := nI_clamp (by omega)
    have w : k_verd c (nI r) = k_judge c r := by unfold k_verd; rw [if_pos hin, hnr]
    refine xr_astore_n d_S_verdict_5 (Nat.le_of_ble_eq_true rfl) ?_
    refine xr_aload_n d_S_verdict_6 rfl ?_
    refine xr_ifnonnull (tgt := 14) d_S_verdict_7 rfl ?_
    refine xr_aload_n d_S_verdict_14 rfl ?_
    refine xr_V0i d_S_verdict_15 xv_4_168 (hW.run hr) rfl (Nat.le_of_ble_eq_true rfl) (by decide) (s_judge hW hr) (fun v h1 h9 => ?_)
    obtain ⟨rfl, e9⟩ := h9
    have e9 := e9.symm
    subst e9
    refine xr_ireturn d_S_verdict_18 rfl rfl rfl ?_
    exact ⟨_, rfl, w.symm, kQ.of hW hI h8 rfl⟩
end
section
/-! the object's own numbers; what a runner has, by cases -/
section KRows2
variable {g : xm_G} {d pc : Nat} {y : xm_M} {ls : List (Option Value)} {st : List Value} {h : xm_H} {Q : Option Value → xm_H → Prop} {c m : kS} {R : Nat → Option Nat} {A : kA} {i : Nat}
theorem kd_other_S {t : Int32 × Int32} (k i : Nat) (hn : ¬ (k = 0 ∧ i = 0)) : kd (c.1, t, kF c) R m A k i = kd c R m A k i := by
  match k with
  | 0 =>
    match i with
    | 0 => exact absurd ⟨rfl, rfl⟩ hn
    | 1 => rfl
    | 2 => rfl
    | i + 3 => rfl
  | 1 => rfl
  | 2 => rfl
  | 3 => rfl
  | 4 => rfl
  | 5 => rfl
  | 6 => rfl
  | k + 7 => rfl
theorem kr_pclk {v : Int32} (hW : kW c R m A h) (hd : decode (xt_code y) pc = .ok (.putfield i, 3)) (hf : xm_okF (xt_own y) i 4 6) (K : ∀ h' : xm_H, kW (c.1, (v, kl c), kF c) R m A h' → h'.2 = h.2 → xm_S g d y (pc + 3, ls, st) h' Q) : xm_S g d y (pc, ls, .int v :: .ref (A 0 0) :: st) h Q := by
  refine xr_putf hd hf hW.this rfl rfl rfl ?_
  exact K _ (hW.put (k0 := 0) (i0 := 0) (show 0 < 4 by decide) rfl rfl kd_other_S) rfl
theorem kr_plst {v : Int32} (hW : kW c R m A h) (hd : decode (xt_code y) pc = .ok (.putfield i, 3)) (hf : xm_okF (xt_own y) i 4 7) (K : ∀ h' : xm_H, kW (c.1, (kc c, v), kF c) R m A h' → h'.2 = h.2 → xm_S g d y (pc + 3, ls, st) h' Q) : xm_S g d y (pc, ls, .int v :: .ref (A 0 0) :: st) h Q := by
  refine xr_putf hd hf hW.this rfl rfl rfl ?_
  exact K _ (hW.put (k0 := 0) (i0 := 0) (show 0 < 4 by decide) rfl rfl kd_other_S) rfl
end KRows2
theorem kW.rnrN {c : kS} {R : Nat → Option Nat} {m : kS} {A : kA} {h : xm_H} (hW : kW c R m A h) {u : Nat} (hu : u < kr c) (e : kF c 19 u = -1) : h.1 (A 2 u) = some (.inl (2, [.int (nI u), .int (kF c 17 u), .int (kF c 18 u), .null])) := by
  have q := hW.rnr hu
  rw [e] at q
  exact q
theorem kW.rnrS {c : kS} {R : Nat → Option Nat} {m : kS} {A : kA} {h : xm_H} (hW : kW c R m A h) {u x : Nat} (hu : u < kr c) (hx : x < 2 ^ 31) (e : kF c 19 u = nI x) : h.1 (A 2 u) = some (.inl (2, [.int (nI u), .int (kF c 17 u), .int (kF c 18 u), .ref (A 5 x)])) := by
  have q := hW.rnr hu
  rw [e, khx_nI hx] at q
  exact q
theorem kI.clk {s : kS} {R : Nat → Option Nat} (h : kI s R) (t : Int32 × Int32) : kI (s.1, t, kF s) R := h
theorem kI8.clk {s : kS} (h : kI8 s) (t : Int32 × Int32) : kI8 (s.1, t, kF s) := h
theorem nI_ne {x : Nat} (hx : x < 2 ^ 31) : ¬ nI x = -1 := fun e => by
  have h2 := nI_toInt hx
  rw [e, ti_m1] at h2
  omega
end
section
/-! the class's calls, one by one -/
theorem p_has {g : xm_G} {h : xm_H} {c m : kS} {R : Nat → Option Nat} {A : kA} (hW : kW c R m A h) {a : Int32} (hI : kI c R) (h8 : kI8 c) : xm_S g 2 m_S_has (xm_entry m_S_has [.ref (A 0 0), .int a]) h (xq_i fun v h' => v = k_has c a ∧ kQ c m A h h') := by
  show xm_S g 2 m_S_has (0, [some (.ref (A 0 0)), some (.int a), none, none], []) h _
  refine xr_aload_n d_S_has_0 rfl ?_
  refine xr_iload_n d_S_has_1 rfl ?_
  refine xr_V1r d_S_has_2 xv_4_98 hW.this rfl rfl (Nat.le_of_ble_eq_true rfl) (by decide) (s_findRunner hW) (fun o h1 h9 => ?_)
  obtain ⟨e9, h9⟩ := h9
  have e9 := e9.symm
  subst e9
  have hb1 := hW.2.2.1
  have hb2 := hW.2.2.2.1
  have hb3 := hW.2.2.2.2
  rcases h9 with ⟨rfl, hout⟩ | ⟨u, hu, rfl, rfl⟩
  · have w : k_has c a = -1 := if_neg hout
    refine xr_astore_nN d_S_has_5 (Nat.le_of_ble_eq_true rfl) ?_
    refine xr_aload_nN d_S_has_6 rfl ?_
    refine xr_ifnonnullN d_S_has_7 ?_
    refine xr_iconst (v := -1) d_S_has_10 rfl ?_
    refine xr_ireturn d_S_has_11 rfl rfl rfl ?_
    exact ⟨_, rfl, w.symm, kQ.of hW hI h8 rfl⟩
  · have hin := k_in_of hu (by omega)
    have hnu : k_n (nI u) = u := nI_clamp (by omega)
    have w0 : k_has c (nI u) = kF c 19 u := by unfold k_has; rw [if_pos hin, hnu]
    refine xr_astore_n d_S_has_5 (Nat.le_of_ble_eq_true rfl) ?_
    refine xr_aload_n d_S_has_6 rfl ?_
    refine xr_ifnonnull (tgt := 12) d_S_has_7 rfl ?_
    refine xr_aload_n d_S_has_12 rfl ?_
    rcases hI.2.2.1 u hu with e | ⟨x, eR⟩
    · have w := w0.trans e
      refine xr_getf d_S_has_13 xf_4_102 (hW.rnrN hu e) rfl ?_
      refine xr_astore_nN d_S_has_16 (Nat.le_of_ble_eq_true rfl) ?_
      refine xr_aload_nN d_S_has_17 rfl ?_
      refine xr_ifnonnullN d_S_has_18 ?_
      refine xr_iconst (v := -1) d_S_has_21 rfl ?_
      refine xr_goto (tgt := 29) d_S_has_22 rfl ?_
      refine xr_ireturn d_S_has_29 rfl rfl rfl ?_
      exact ⟨_, rfl, w.symm, kQ.of hW hI h8 rfl⟩
    · obtain ⟨hx, -, e⟩ := hI.2.1 x u eR
      have hx2 : x < 2 ^ 31 := by have := hI.x120 hx; omega
      have hnx : k_n (nI x) = x := nI_clamp hx2
      have w := w0.trans e
      refine xr_getf d_S_has_13 xf_4_102 (hW.rnrS hu hx2 e) rfl ?_
      refine xr_astore_n d_S_has_16 (Nat.le_of_ble_eq_true rfl) ?_
      refine xr_aload_n d_S_has_17 rfl ?_
      refine xr_ifnonnull (tgt := 25) d_S_has_18 rfl ?_
      refine xr_aload_n d_S_has_25 rfl ?_
      refine xr_V0i d_S_has_26 xv_4_114 (hW.tsk hx) rfl (Nat.le_of_ble_eq_true rfl) (by decide) (s_place hW hx) (fun v h1 h9 => ?_)
      obtain ⟨rfl, e9⟩ := h9
      have e9 := e9.symm
      subst e9
      refine xr_ireturn d_S_has_29 rfl rfl rfl ?_
      exact ⟨_, rfl, w.symm, kQ.of hW hI h8 rfl⟩
theorem p_about {g : xm_G} {h : xm_H} {c m : kS} {R : Nat → Option Nat} {A : kA} (hW : kW c R m A h) {a b w : Int32} (hI : kI c R) (h8 : kI8 c) : xm_S g 2 m_S_about (xm_entry m_S_about [.ref (A 0 0), .int a, .int b, .int w]) h (xq_i fun v h' => v = k_about c a b w ∧ kQ c m A h h') := by
  show xm_S g 2 m_S_about (0, [some (.ref (A 0 0)), some (.int a), some (.int b), some (.int w), none], []) h _
  refine xr_aload_n d_S_about_0 rfl ?_
  refine xr_iload_n d_S_about_1 rfl ?_
  refine xr_iload_n d_S_about_2 rfl ?_
  refine xr_V2r d_S_about_3 xv_4_70 hW.this rfl rfl rfl (Nat.le_of_ble_eq_true rfl) (by decide) (s_findTask hW) (fun o h1 h9 => ?_)
  obtain ⟨e9, h9⟩ := h9
  have e9 := e9.symm
  subst e9
  have hb1 := hW.2.2.1
  have hb2 := hW.2.2.2.2
  rcases h9 with ⟨rfl, hout⟩ | ⟨r, j, hr, hj, rfl, rfl, rfl⟩
  · have w : k_about c a b w = -1 := if_neg hout
    refine xr_astoreN d_S_about_6 (Nat.le_of_ble_eq_true rfl) ?_
    refine xr_aloadN d_S_about_8 rfl ?_
    refine xr_ifnonnullN d_S_about_10 ?_
    refine xr_iconst (v := -1) d_S_about_13 rfl ?_
    refine xr_ireturn d_S_about_14 rfl rfl rfl ?_
    exact ⟨_, rfl, w.symm, kQ.of hW hI h8 rfl⟩
  · have hx := k_okx hW hr hj
    have hin : k_in (nI r) (kq c) ∧ k_in (nI j) (kj c) := ⟨k_in_of hr (by omega), k_in_of hj (by omega)⟩
    have hnr : k_n (nI r) = r := nI_clamp (by omega)
    have hnj : k_n (nI j) = j := nI_clamp (by omega)
    have hx2 : 12 * r + j < 2 ^ 31 := by omega
    have hd : (12 * r + j) / 12 = r := kx_d (by omega)
    have hm : (12 * r + j) % 12 = j := kx_m (by omega)
    have w9 : k_about c (nI r) (nI j) w = k_abt c r j w := by unfold k_about; rw [if_pos hin, hnr, hnj]
    refine xr_astore d_S_about_6 (Nat.le_of_ble_eq_true rfl) ?_
    refine xr_aload d_S_about_8 rfl ?_
    refine xr_ifnonnull (tgt := 15) d_S_about_10 rfl ?_
    refine xr_iload_n d_S_about_15 rfl ?_
    by_cases w0 : w = 0
    · subst w0
      refine xr_tableIn (tgt := 52) d_S_about_16 (by decide) (by decide) rfl rfl ?_
      refine xr_aload d_S_about_52 rfl ?_
      refine xr_V0i d_S_about_54 xv_4_152 (hW.tsk hx) rfl (Nat.le_of_ble_eq_true rfl) (by decide) (s_runnerNumber hW hx (fun u q => (hI.2.1 _ u q).2.1)) (fun v h1 h9 => ?_)
      obtain ⟨rfl, e9⟩ := h9
      have e9 := e9.symm
      subst e9
      rw [← hI.rof hx2]
      refine xr_ireturn d_S_about_57 rfl rfl rfl ?_
      exact ⟨_, rfl, w9.symm, kQ.of hW hI h8 rfl⟩
    by_cases w1 : w = 1
    · subst w1
      refine xr_tableIn (tgt := 58) d_S_about_16 (by decide) (by decide) rfl rfl ?_
      refine xr_aload d_S_about_58 rfl ?_
      refine xr_getf d_S_about_60 xf_4_155 (hW.tsk hx) rfl ?_
      refine xr_ireturn d_S_about_63 rfl rfl rfl ?_
      exact ⟨_, rfl, w9.symm, kQ.of hW hI h8 rfl⟩
    by_cases w2 : w = 2
    · subst w2
      refine xr_tableIn (tgt := 64) d_S_about_16 (by decide) (by decide) rfl rfl ?_
      refine xr_aload d_S_about_64 rfl ?_
      refine xr_getf d_S_about_66 xf_4_158 (hW.tsk hx) rfl ?_
      refine xr_ireturn d_S_about_69 rfl rfl rfl ?_
      exact ⟨_, rfl, w9.symm, kQ.of hW hI h8 rfl⟩
    by_cases w3 : w = 3
    · subst w3
      refine xr_tableIn (tgt := 70) d_S_about_16 (by decide) (by decide) rfl rfl ?_
      refine xr_aload d_S_about_70 rfl ?_
      refine xr_getf d_S_about_72 xf_4_161 (hW.tsk hx) rfl ?_
      refine xr_ireturn d_S_about_75 rfl rfl rfl ?_
      exact ⟨_, rfl, w9.symm, kQ.of hW hI h8 rfl⟩
    by_cases w4 : w = 4
    · subst w4
      refine xr_tableIn (tgt := 76) d_S_about_16 (by decide) (by decide) rfl rfl ?_
      refine xr_aload d_S_about_76 rfl ?_
      refine xr_getf d_S_about_78 xf_4_88 (hW.tsk hx) rfl ?_
      refine xr_aload d_S_about_81 rfl ?_
      refine xr_getf d_S_about_83 xf_4_74 (hW.tsk hx) rfl ?_
      refine xr_V1i d_S_about_86 xv_4_164 (hW.run (by omega)) rfl rfl (Nat.le_of_ble_eq_true rfl) (by decide) (s_art hW (by omega) hx.2) (fun v h1 h9 => ?_)
      obtain ⟨rfl, e9⟩ := h9
      have e9 := e9.symm
      subst e9
      rw [hd, hm, show kj c = j + (kj c - j) by omega, hI.art (kj c - j) (by omega)]
      refine xr_ireturn d_S_about_89 rfl rfl rfl ?_
      exact ⟨_, rfl, w9.symm, kQ.of hW hI h8 rfl⟩
    refine xr_tableOut (tgt := 90) d_S_about_16 (by simp only [ti_eq, ti_0, ti_1, ti_2, ti_3, ti_4] at w0 w1 w2 w3 w4; omega) rfl ?_
    refine xr_iconst (v := 0) d_S_about_90 rfl ?_
    refine xr_ireturn d_S_about_91 rfl rfl rfl ?_
    exact ⟨_, rfl, by rw [w9, k_abt, if_neg w0, if_neg w1, if_neg w2, if_neg w3, if_neg w4], kQ.of hW hI h8 rfl⟩
theorem p_lost {g : xm_G} {h : xm_H} {c m : kS} {R : Nat → Option Nat} {A : kA} (hW : kW c R m A h) {t : Int32} (hI : kI c R) (h8 : kI8 c) : xm_S g 0 m_S_lost (xm_entry m_S_lost [.ref (A 0 0), .int t]) h (xq_i fun v h' => v = (o_lost c t).2 ∧ kQ (o_lost c t).1 m A h h') := by
  show xm_S g 0 m_S_lost (0, [some (.ref (A 0 0)), some (.int t)], []) h _
  refine xr_iload_n d_S_lost_0 rfl ?_
  refine xr_iconst (v := 1) d_S_lost_1 rfl ?_
  refine xr_icmp_lt (tgt := 11) d_S_lost_2 rfl (fun c2 => ?_) (fun c2 => ?_)
  · have w : o_lost c t = (c, 0) := if_pos (Or.inl c2)
    refine xr_iconst (v := 0) d_S_lost_11 rfl ?_
    refine xr_ireturn d_S_lost_12 rfl rfl rfl ?_
    rw [w]
    exact ⟨_, rfl, rfl, kQ.of hW hI h8 rfl⟩
  · refine xr_iload_n d_S_lost_5 rfl ?_
    refine xr_bipush (v := 100) d_S_lost_6 rfl ?_
    refine xr_icmp_le (tgt := 13) d_S_lost_8 rfl (fun c8 => ?_) (fun c8 => ?_)
    · have w : o_lost c t = ((c.1, (kc c, t), kF c), 1) := if_neg (fun q => q.elim c2 (ki_nlt.mpr c8))
      refine xr_aload_n d_S_lost_13 rfl ?_
      refine xr_iload_n d_S_lost_14 rfl ?_
      refine kr_plst hW d_S_lost_15 xf_4_40 (fun h1 hW he => ?_)
      refine xr_iconst (v := 1) d_S_lost_18 rfl ?_
      refine xr_ireturn d_S_lost_19 rfl rfl rfl ?_
      rw [w]
      exact ⟨_, rfl, rfl, kQ.of hW (hI.clk _) (h8.clk _) he⟩
    · have w : o_lost c t = (c, 0) := if_pos (Or.inr (ki_nle.mp c8))
      refine xr_iconst (v := 0) d_S_lost_11 rfl ?_
      refine xr_ireturn d_S_lost_12 rfl rfl rfl ?_
      rw [w]
      exact ⟨_, rfl, rfl, kQ.of hW hI h8 rfl⟩
theorem p_beat {g : xm_G} {h : xm_H} {c m : kS} {R : Nat → Option Nat} {A : kA} (hW : kW c R m A h) {a : Int32} (hI : kI c R) (h8 : kI8 c) : xm_S g 1 m_S_beat (xm_entry m_S_beat [.ref (A 0 0), .int a]) h (xq_i fun v h' => v = (o_beat c a).2 ∧ kQ (o_beat c a).1 m A h h') := by
  show xm_S g 1 m_S_beat (0, [some (.ref (A 0 0)), some (.int a), none], []) h _
  refine xr_aload_n d_S_beat_0 rfl ?_
  refine xr_iload_n d_S_beat_1 rfl ?_
  refine xr_V1r d_S_beat_2 xv_4_98 hW.this rfl rfl (Nat.le_of_ble_eq_true rfl) (by decide) (s_findRunner hW) (fun o h1 h9 => ?_)
  obtain ⟨e9, h9⟩ := h9
  have e9 := e9.symm
  subst e9
  have hb1 := hW.2.2.1
  have hb2 := hW.2.2.2.1
  have hb3 := hW.2.2.2.2
  rcases h9 with ⟨rfl, hout⟩ | ⟨u, hu, rfl, rfl⟩
  · have w : o_beat c a = (c, 0) := if_neg (fun q => hout q.1)
    refine xr_astore_nN d_S_beat_5 (Nat.le_of_ble_eq_true rfl) ?_
    refine xr_aload_nN d_S_beat_6 rfl ?_
    refine xr_ifnullN (tgt := 17) d_S_beat_7 rfl ?_
    refine xr_iconst (v := 0) d_S_beat_17 rfl ?_
    refine xr_ireturn d_S_beat_18 rfl rfl rfl ?_
    rw [w]
    exact ⟨_, rfl, rfl, kQ.of hW hI h8 rfl⟩
  · have hin := k_in_of hu (by omega)
    have hnu : k_n (nI u) = u := nI_clamp (by omega)
    refine xr_astore_n d_S_beat_5 (Nat.le_of_ble_eq_true rfl) ?_
    refine xr_aload_n d_S_beat_6 rfl ?_
    refine xr_ifnull d_S_beat_7 ?_
    refine xr_aload_n d_S_beat_10 rfl ?_
    rcases hI.2.2.1 u hu with e | ⟨x, eR⟩
    · have w : o_beat c (nI u) = (c, 0) := if_neg (fun q => q.2 (by rw [hnu]; exact e))
      refine xr_getf d_S_beat_11 xf_4_102 (hW.rnrN hu e) rfl ?_
      refine xr_ifnonnullN d_S_beat_14 ?_
      refine xr_iconst (v := 0) d_S_beat_17 rfl ?_
      refine xr_ireturn d_S_beat_18 rfl rfl rfl ?_
      rw [w]
      exact ⟨_, rfl, rfl, kQ.of hW hI h8 rfl⟩
    · obtain ⟨hx, -, e⟩ := hI.2.1 x u eR
      have hx2 : x < 2 ^ 31 := by have := hI.x120 hx; omega
      have hnx : k_n (nI x) = x := nI_clamp hx2
      have w : o_beat c (nI u) = (kw c 18 u (kc c), 1) := by
        unfold o_beat
        rw [hnu, if_pos ⟨hin, by rw [e]; exact nI_ne hx2⟩]
      refine xr_getf d_S_beat_11 xf_4_102 (hW.rnrS hu hx2 e) rfl ?_
      refine xr_ifnonnull (tgt := 19) d_S_beat_14 rfl ?_
      refine xr_aload_n d_S_beat_19 rfl ?_
      refine xr_aload_n d_S_beat_20 rfl ?_
      refine xr_getf d_S_beat_21 xf_4_37 hW.this rfl ?_
      refine kr_pbeat hW hu d_S_beat_24 xf_4_118 (fun h1 hW he => ?_)
      refine xr_iconst (v := 1) d_S_beat_27 rfl ?_
      refine xr_ireturn d_S_beat_28 rfl rfl rfl ?_
      rw [w]
      exact ⟨_, rfl, rfl, kQ.of hW (hI.other (by omega)) (h8.other (by decide) (by decide) (by decide)) he⟩
theorem p_end {g : xm_G} {h : xm_H} {c m : kS} {R : Nat → Option Nat} {A : kA} (hW : kW c R m A h) {a b v : Int32} (hI : kI c R) (h8 : kI8 c) : xm_S g 5 m_S_end (xm_entry m_S_end [.ref (A 0 0), .int a, .int b, .int v]) h (xq_i fun r h' => r = (o_end c a b v).2 ∧ kQ (o_end c a b v).1 m A h h') := by
  show xm_S g 5 m_S_end (0, [some (.ref (A 0 0)), some (.int a), some (.int b), some (.int v), none, none], []) h _
  refine xr_aload_n d_S_end_0 rfl ?_
  refine xr_iload_n d_S_end_1 rfl ?_
  refine xr_V1r d_S_end_2 xv_4_98 hW.this rfl rfl (Nat.le_of_ble_eq_true rfl) (by decide) (s_findRunner hW) (fun o h1 h9 => ?_)
  obtain ⟨e9, h9⟩ := h9
  have e9 := e9.symm
  subst e9
  have hb1 := hW.2.2.1
  have hb2 := hW.2.2.2.1
  have hb3 := hW.2.2.2.2
  rcases h9 with ⟨rfl, hout⟩ | ⟨u, hu, rfl, rfl⟩
  · have w : o_end c a b v = (c, 0) := if_neg (fun q => hout q.1)
    refine xr_astoreN d_S_end_5 (Nat.le_of_ble_eq_true rfl) ?_
    refine xr_aloadN d_S_end_7 rfl ?_
    refine xr_ifnonnullN d_S_end_9 ?_
    refine xr_iconst (v := 0) d_S_end_12 rfl ?_
    refine xr_ireturn d_S_end_13 rfl rfl rfl ?_
    rw [w]
    exact ⟨_, rfl, rfl, kQ.of hW hI h8 rfl⟩
  · have hin := k_in_of hu (by omega)
    have hnu : k_n (nI u) = u := nI_clamp (by omega)
    refine xr_astore d_S_end_5 (Nat.le_of_ble_eq_true rfl) ?_
    refine xr_aload d_S_end_7 rfl ?_
    refine xr_ifnonnull (tgt := 14) d_S_end_9 rfl ?_
    refine xr_aload d_S_end_14 rfl ?_
    rcases hI.2.2.1 u hu with e | ⟨x, eR⟩
    · have w : o_end c (nI u) b v = (c, 0) := if_neg (fun q => q.2 (by rw [hnu]; exact e))
      refine xr_getf d_S_end_16 xf_4_102 (hW.rnrN hu e) rfl ?_
      refine xr_astoreN d_S_end_19 (Nat.le_of_ble_eq_true rfl) ?_
      refine xr_aloadN d_S_end_21 rfl ?_
      refine xr_ifnonnullN d_S_end_23 ?_
      refine xr_iconst (v := 0) d_S_end_26 rfl ?_
      refine xr_ireturn d_S_end_27 rfl rfl rfl ?_
      rw [w]
      exact ⟨_, rfl, rfl, kQ.of hW hI h8 rfl⟩
    · obtain ⟨hx, -, e⟩ := hI.2.1 x u eR
      have hx2 : x < 2 ^ 31 := by have := hI.x120 hx; omega
      have hnx : k_n (nI x) = x := nI_clamp hx2
      have hs2 : kF c 9 x = 2 := (hI.2.2.2.1 x hx).mpr (by rw [eR]; exact fun q => by cases q)
      have w0 : o_end c (nI u) b v = (k_settle (if ¬ b = 0 then k_done c x v else k_fail c x), 1) := by
        unfold o_end
        rw [hnu, if_pos ⟨hin, by rw [e]; exact nI_ne hx2⟩, e, hnx]
      refine xr_getf d_S_end_16 xf_4_102 (hW.rnrS hu hx2 e) rfl ?_
      refine xr_astore d_S_end_19 (Nat.le_of_ble_eq_true rfl) ?_
      refine xr_aload d_S_end_21 rfl ?_
      refine xr_ifnonnull (tgt := 28) d_S_end_23 rfl ?_
      refine xr_iload_n d_S_end_28 rfl ?_
      refine xr_if_eq (tgt := 41) d_S_end_29 rfl (fun c29 => ?_) (fun c29 => ?_)
      · have w := w0.trans (by rw [if_neg (fun q => q c29)])
        refine xr_aload d_S_end_41 rfl ?_
        refine xr_V0v d_S_end_43 xv_4_124 (hW.tsk hx) rfl (Nat.le_of_ble_eq_true rfl) (by decide) (s_failTry hW hx (fun u q => (hI.2.1 _ u q).2.1)) (fun h1 h9 => ?_)
        obtain ⟨hW, he⟩ := h9
        rw [hI.lv hx2, k_fail_c] at hW
        have hI := hI.fail hx hs2
        have h8 := h8.fail x
        refine xr_aload_n d_S_end_46 rfl ?_
        refine xr_V0v d_S_end_47 xv_4_67 hW.this rfl (Nat.le_of_ble_eq_true rfl) (by decide) (s_settle hW hI h8) (fun h9s h9 => ?_)
        obtain ⟨hW, hI, h8, hes⟩ := h9
        refine xr_iconst (v := 1) d_S_end_50 rfl ?_
        refine xr_ireturn d_S_end_51 rfl rfl rfl ?_
        rw [w]
        exact ⟨_, rfl, rfl, kQ.of hW hI h8 (hes.trans he)⟩
      · have w := w0.trans (by rw [if_pos c29])
        refine xr_aload d_S_end_32 rfl ?_
        refine xr_iload_n d_S_end_34 rfl ?_
        refine xr_V1v d_S_end_35 xv_4_121 (hW.tsk hx) rfl rfl (Nat.le_of_ble_eq_true rfl) (by decide) (s_finish hW hx (fun u q => (hI.2.1 _ u q).2.1)) (fun h1 h9 => ?_)
        obtain ⟨hW, he⟩ := h9
        rw [hI.lv hx2] at hW
        have hI := hI.done (v := v) hx hs2
        have h8 := h8.done x v
        refine xr_goto (tgt := 46) d_S_end_38 rfl ?_
        refine xr_aload_n d_S_end_46 rfl ?_
        refine xr_V0v d_S_end_47 xv_4_67 hW.this rfl (Nat.le_of_ble_eq_true rfl) (by decide) (s_settle hW hI h8) (fun h9s h9 => ?_)
        obtain ⟨hW, hI, h8, hes⟩ := h9
        refine xr_iconst (v := 1) d_S_end_50 rfl ?_
        refine xr_ireturn d_S_end_51 rfl rfl rfl ?_
        rw [w]
        exact ⟨_, rfl, rfl, kQ.of hW hI h8 (hes.trans he)⟩
theorem p_cancel {g : xm_G} {h : xm_H} {c m : kS} {R : Nat → Option Nat} {A : kA} (hW : kW c R m A h) {a : Int32} (hI : kI c R) (h8 : kI8 c) : xm_S g 5 m_S_cancel (xm_entry m_S_cancel [.ref (A 0 0), .int a]) h (xq_i fun v h' => v = (o_cancel c a).2 ∧ kQ (o_cancel c a).1 m A h h') := by
  show xm_S g 5 m_S_cancel (0, [some (.ref (A 0 0)), some (.int a), none], []) h _
  refine xr_aload_n d_S_cancel_0 rfl ?_
  refine xr_iload_n d_S_cancel_1 rfl ?_
  refine xr_V1r d_S_cancel_2 xv_4_133 hW.this rfl rfl (Nat.le_of_ble_eq_true rfl) (by decide) (s_findRun hW) (fun o h1 h9 => ?_)
  obtain ⟨e9, h9⟩ := h9
  have e9 := e9.symm
  subst e9
  have hb1 := hW.2.2.1
  have hb2 := hW.2.2.2.2
  rcases h9 with ⟨rfl, hout⟩ | ⟨r, hr, rfl, rfl⟩
  · have w : o_cancel c a = (c, 0) := if_neg (fun q => hout q.1)
    refine xr_astore_nN d_S_cancel_5 (Nat.le_of_ble_eq_true rfl) ?_
    refine xr_aload_nN d_S_cancel_6 rfl ?_
    refine xr_ifnullN (tgt := 24) d_S_cancel_7 rfl ?_
    refine xr_iconst (v := 0) d_S_cancel_24 rfl ?_
    refine xr_ireturn d_S_cancel_25 rfl rfl rfl ?_
    rw [w]
    exact ⟨_, rfl, rfl, kQ.of hW hI h8 rfl⟩
  · have hin := k_in_of hr (by omega)
    have hnr : k_n (nI r) = r := nI_clamp (by omega)
    refine xr_astore_n d_S_cancel_5 (Nat.le_of_ble_eq_true rfl) ?_
    refine xr_aload_n d_S_cancel_6 rfl ?_
    refine xr_ifnull d_S_cancel_7 ?_
    refine xr_aload_n d_S_cancel_10 rfl ?_
    refine xr_getf d_S_cancel_11 xf_4_137 (hW.run hr) rfl ?_
    refine xr_if_ne (tgt := 24) d_S_cancel_14 rfl (fun c14 => ?_) (fun c14 => ?_)
    · have w : o_cancel c (nI r) = (c, 0) := if_neg (fun q => c14 (by have := q.2.1; rw [hnr] at this; exact this))
      refine xr_iconst (v := 0) d_S_cancel_24 rfl ?_
      refine xr_ireturn d_S_cancel_25 rfl rfl rfl ?_
      rw [w]
      exact ⟨_, rfl, rfl, kQ.of hW hI h8 rfl⟩
    · refine xr_aload_n d_S_cancel_17 rfl ?_
      refine xr_V0i d_S_cancel_18 xv_4_140 (hW.run hr) rfl (Nat.le_of_ble_eq_true rfl) (by decide) (s_isOver hW hr) (fun v h1 h9 => ?_)
      obtain ⟨rfl, e9⟩ := h9
      have e9 := e9.symm
      subst e9
      refine xr_if_eq (tgt := 26) d_S_cancel_21 rfl (fun c21 => ?_) (fun c21 => ?_)
      · have w : o_cancel c (nI r) = (k_settle (k_stop c r), 1) := by
          unfold o_cancel
          rw [hnr, if_pos ⟨hin, c14, kbi_0.mp c21⟩]
        refine xr_aload_n d_S_cancel_26 rfl ?_
        refine xr_V0v d_S_cancel_27 xv_4_143 (hW.run hr) rfl (Nat.le_of_ble_eq_true rfl) (by decide) (s_cancelAll hW hr hI) (fun h1 h9 => ?_)
        have h8 := h8.stop hb1 r
        obtain ⟨R', hW, hI, he⟩ := h9
        refine xr_aload_n d_S_cancel_30 rfl ?_
        refine xr_V0v d_S_cancel_31 xv_4_67 hW.this rfl (Nat.le_of_ble_eq_true rfl) (by decide) (s_settle hW hI h8) (fun h9s h9 => ?_)
        obtain ⟨hW, hI, h8, hes⟩ := h9
        refine xr_iconst (v := 1) d_S_cancel_34 rfl ?_
        refine xr_ireturn d_S_cancel_35 rfl rfl rfl ?_
        rw [w]
        exact ⟨_, rfl, rfl, kQ.of hW hI h8 (hes.trans he)⟩
      · have w : o_cancel c (nI r) = (c, 0) := by
          unfold o_cancel
          rw [hnr, if_neg (fun q => q.2.2 (kbi_n0 c21))]
        refine xr_iconst (v := 0) d_S_cancel_24 rfl ?_
        refine xr_ireturn d_S_cancel_25 rfl rfl rfl ?_
        rw [w]
        exact ⟨_, rfl, rfl, kQ.of hW hI h8 rfl⟩
theorem p_again {g : xm_G} {h : xm_H} {c m : kS} {R : Nat → Option Nat} {A : kA} (hW : kW c R m A h) {a : Int32} (hI : kI c R) (h8 : kI8 c) : xm_S g 5 m_S_again (xm_entry m_S_again [.ref (A 0 0), .int a]) h (xq_i fun v h' => v = (o_again c a).2 ∧ kQ (o_again c a).1 m A h h') := by
  show xm_S g 5 m_S_again (0, [some (.ref (A 0 0)), some (.int a), none, none], []) h _
  refine xr_aload_n d_S_again_0 rfl ?_
  refine xr_iload_n d_S_again_1 rfl ?_
  refine xr_V1r d_S_again_2 xv_4_133 hW.this rfl rfl (Nat.le_of_ble_eq_true rfl) (by decide) (s_findRun hW) (fun o h1 h9 => ?_)
  obtain ⟨e9, h9⟩ := h9
  have e9 := e9.symm
  subst e9
  have hb1 := hW.2.2.1
  have hb2 := hW.2.2.2.2
  rcases h9 with ⟨rfl, hout⟩ | ⟨r, hr, rfl, rfl⟩
  · have w : o_again c a = (c, -1) := if_neg (fun q => hout q.1)
    refine xr_astore_nN d_S_again_5 (Nat.le_of_ble_eq_true rfl) ?_
    refine xr_aload_nN d_S_again_6 rfl ?_
    refine xr_ifnullN (tgt := 24) d_S_again_7 rfl ?_
    refine xr_iconst (v := -1) d_S_again_24 rfl ?_
    refine xr_ireturn d_S_again_25 rfl rfl rfl ?_
    rw [w]
    exact ⟨_, rfl, rfl, kQ.of hW hI h8 rfl⟩
  · have hin := k_in_of hr (by omega)
    have hnr : k_n (nI r) = r := nI_clamp (by omega)
    refine xr_astore_n d_S_again_5 (Nat.le_of_ble_eq_true rfl) ?_
    refine xr_aload_n d_S_again_6 rfl ?_
    refine xr_ifnull d_S_again_7 ?_
    refine xr_aload_n d_S_again_10 rfl ?_
    refine xr_getf d_S_again_11 xf_4_137 (hW.run hr) rfl ?_
    refine xr_if_ne (tgt := 24) d_S_again_14 rfl (fun c14 => ?_) (fun c14 => ?_)
    · have w : o_again c (nI r) = (c, -1) := if_neg (fun q => c14 (by have := q.2.1; rw [hnr] at this; exact this))
      refine xr_iconst (v := -1) d_S_again_24 rfl ?_
      refine xr_ireturn d_S_again_25 rfl rfl rfl ?_
      rw [w]
      exact ⟨_, rfl, rfl, kQ.of hW hI h8 rfl⟩
    · refine xr_aload_n d_S_again_17 rfl ?_
      refine xr_V0i d_S_again_18 xv_4_140 (hW.run hr) rfl (Nat.le_of_ble_eq_true rfl) (by decide) (s_isOver hW hr) (fun v h1 h9 => ?_)
      obtain ⟨rfl, e9⟩ := h9
      have e9 := e9.symm
      subst e9
      refine xr_if_ne (tgt := 26) d_S_again_21 rfl (fun c21 => ?_) (fun c21 => ?_)
      · have w : o_again c (nI r) = (k_settle (k_agN c r (kj c)), k_agC c r (kj c)) := by
          unfold o_again
          rw [hnr, if_pos ⟨hin, c14, kbi_n0 c21⟩]
        refine xr_aload_n d_S_again_26 rfl ?_
        refine xr_V0i d_S_again_27 xv_4_146 (hW.run hr) rfl (Nat.le_of_ble_eq_true rfl) (by decide) (s_redoFailed hW hr hI) (fun v h1 h9 => ?_)
        obtain ⟨rfl, hW, hI, he⟩ := h9
        have h8 := h8.again c14 (kj c) hb1
        refine xr_istore_n d_S_again_30 (Nat.le_of_ble_eq_true rfl) ?_
        refine xr_aload_n d_S_again_31 rfl ?_
        refine xr_V0v d_S_again_32 xv_4_67 hW.this rfl (Nat.le_of_ble_eq_true rfl) (by decide) (s_settle hW hI h8) (fun h9s h9 => ?_)
        obtain ⟨hW, hI, h8, hes⟩ := h9
        refine xr_iload_n d_S_again_35 rfl ?_
        refine xr_ireturn d_S_again_36 rfl rfl rfl ?_
        rw [w]
        exact ⟨_, rfl, rfl, kQ.of hW hI h8 (hes.trans he)⟩
      · have w : o_again c (nI r) = (c, -1) := by
          unfold o_again
          rw [hnr, if_neg (fun q => kbi_0.mp c21 q.2.2)]
        refine xr_iconst (v := -1) d_S_again_24 rfl ?_
        refine xr_ireturn d_S_again_25 rfl rfl rfl ?_
        rw [w]
        exact ⟨_, rfl, rfl, kQ.of hW hI h8 rfl⟩
theorem p_approve {g : xm_G} {h : xm_H} {c m : kS} {R : Nat → Option Nat} {A : kA} (hW : kW c R m A h) {a b p : Int32} (hI : kI c R) (h8 : kI8 c) : xm_S g 5 m_S_approve (xm_entry m_S_approve [.ref (A 0 0), .int a, .int b, .int p]) h (xq_i fun v h' => v = (o_appr c a b p).2 ∧ kQ (o_appr c a b p).1 m A h h') := by
  show xm_S g 5 m_S_approve (0, [some (.ref (A 0 0)), some (.int a), some (.int b), some (.int p), none, none], []) h _
  refine xr_aload_n d_S_approve_0 rfl ?_
  refine xr_iload_n d_S_approve_1 rfl ?_
  refine xr_iload_n d_S_approve_2 rfl ?_
  refine xr_V2r d_S_approve_3 xv_4_70 hW.this rfl rfl rfl (Nat.le_of_ble_eq_true rfl) (by decide) (s_findTask hW) (fun o h1 h9 => ?_)
  obtain ⟨e9, h9⟩ := h9
  have e9 := e9.symm
  subst e9
  have hb1 := hW.2.2.1
  have hb2 := hW.2.2.2.2
  rcases h9 with ⟨rfl, hout⟩ | ⟨r, j, hr, hj, rfl, rfl, rfl⟩
  · have w : o_appr c a b p = (c, -1) := if_neg (fun q => hout ⟨q.1, q.2.1⟩)
    refine xr_astoreN d_S_approve_6 (Nat.le_of_ble_eq_true rfl) ?_
    refine xr_aloadN d_S_approve_8 rfl ?_
    refine xr_ifnullN (tgt := 39) d_S_approve_10 rfl ?_
    refine xr_iconst (v := -1) d_S_approve_39 rfl ?_
    refine xr_ireturn d_S_approve_40 rfl rfl rfl ?_
    rw [w]
    exact ⟨_, rfl, rfl, kQ.of hW hI h8 rfl⟩
  · have hx := k_okx hW hr hj
    have hin : k_in (nI r) (kq c) ∧ k_in (nI j) (kj c) := ⟨k_in_of hr (by omega), k_in_of hj (by omega)⟩
    have hnr : k_n (nI r) = r := nI_clamp (by omega)
    have hnj : k_n (nI j) = j := nI_clamp (by omega)
    have hx2 : 12 * r + j < 2 ^ 31 := by omega
    have hd : (12 * r + j) / 12 = r := kx_d (by omega)
    have hm : (12 * r + j) % 12 = j := kx_m (by omega)
    refine xr_astore d_S_approve_6 (Nat.le_of_ble_eq_true rfl) ?_
    refine xr_aload d_S_approve_8 rfl ?_
    refine xr_ifnull d_S_approve_10 ?_
    refine xr_iload_n d_S_approve_13 rfl ?_
    refine xr_S1i d_S_approve_14 xs_4_56 rfl rfl (Nat.le_of_ble_eq_true rfl) (by decide) s_isPerson (fun v h1 h9 => ?_)
    obtain ⟨rfl, e9⟩ := h9
    have e9 := e9.symm
    subst e9
    refine xr_if_eq (tgt := 39) d_S_approve_17 rfl (fun c17 => ?_) (fun c17 => ?_)
    · have w : o_appr c (nI r) (nI j) p = (c, -1) := if_neg (fun q => kbi_0.mp c17 q.2.2.1)
      refine xr_iconst (v := -1) d_S_approve_39 rfl ?_
      refine xr_ireturn d_S_approve_40 rfl rfl rfl ?_
      rw [w]
      exact ⟨_, rfl, rfl, kQ.of hW hI h8 rfl⟩
    · obtain ⟨p, hp, rfl⟩ := k_in_ex (by decide) (kbi_n0 c17)
      have hnp : k_n (nI p) = p := nI_clamp (by omega)
      refine xr_aload d_S_approve_20 rfl ?_
      refine xr_getf d_S_approve_22 xf_4_74 (hW.tsk hx) rfl ?_
      refine xr_getf d_S_approve_25 xf_4_80 (hW.job hx.2) rfl ?_
      rw [hm]
      refine xr_if_eq (tgt := 39) d_S_approve_28 rfl (fun c28 => ?_) (fun c28 => ?_)
      · have w : o_appr c (nI r) (nI j) (nI p) = (c, -1) := by
          unfold o_appr
          rw [hnr, hnj, if_neg (fun q => q.2.2.2.1 c28)]
        refine xr_iconst (v := -1) d_S_approve_39 rfl ?_
        refine xr_ireturn d_S_approve_40 rfl rfl rfl ?_
        rw [w]
        exact ⟨_, rfl, rfl, kQ.of hW hI h8 rfl⟩
      · refine xr_aload d_S_approve_31 rfl ?_
        refine xr_V0i d_S_approve_33 xv_4_84 (hW.tsk hx) rfl (Nat.le_of_ble_eq_true rfl) (by decide) (s_isEnded hW hx) (fun v h1 h9 => ?_)
        obtain ⟨rfl, e9⟩ := h9
        have e9 := e9.symm
        subst e9
        refine xr_if_eq (tgt := 41) d_S_approve_36 rfl (fun c36 => ?_) (fun c36 => ?_)
        · have w0 : o_appr c (nI r) (nI j) (nI p) = (if kF c 6 r = nI p then (c, -2) else if k_bit (kF c 16 (12 * r + j)) p then (c, 0) else (k_settle (kw c 16 (12 * r + j) (kF c 16 (12 * r + j) ||| ((1 : Int32) <<< (nI p &&& 31)))), 1)) := by
            unfold o_appr
            rw [hnr, hnj, hnp, if_pos ⟨hin.1, hin.2, kbi_n0 c17, c28, kbi_0.mp c36⟩]
          refine xr_iload_n d_S_approve_41 rfl ?_
          refine xr_aload d_S_approve_42 rfl ?_
          refine xr_getf d_S_approve_44 xf_4_88 (hW.tsk hx) rfl ?_
          refine xr_getf d_S_approve_47 xf_4_92 (hW.run (by omega)) rfl ?_
          rw [hd]
          refine xr_icmp_ne (tgt := 56) d_S_approve_50 rfl (fun c50 => ?_) (fun c50 => ?_)
          · have w1 := w0.trans (if_neg (fun q => c50 q.symm))
            refine xr_iconst (v := 1) d_S_approve_56 rfl ?_
            refine xr_iload_n d_S_approve_57 rfl ?_
            refine xr_ishl d_S_approve_58 ?_
            refine xr_istore d_S_approve_59 (Nat.le_of_ble_eq_true rfl) ?_
            obtain ⟨n9, hn9, ea⟩ := hI.2.2.2.2.2.2.2.2 (12 * r + j)
            have hap := k_ap n9 hn9 p hp
            rw [← ea] at hap
            refine xr_aload d_S_approve_61 rfl ?_
            refine xr_getf d_S_approve_63 xf_4_95 (hW.tsk hx) rfl ?_
            refine xr_iload d_S_approve_66 rfl ?_
            refine xr_iand d_S_approve_68 ?_
            refine xr_if_eq (tgt := 74) d_S_approve_69 rfl (fun c69 => ?_) (fun c69 => ?_)
            · have w := w1.trans (if_neg (hap.2.2.mp c69))
              refine xr_aload d_S_approve_74 rfl ?_
              refine xr_dup d_S_approve_76 rfl ?_
              refine xr_getf d_S_approve_77 xf_4_95 (hW.tsk hx) rfl ?_
              refine xr_iload d_S_approve_80 rfl ?_
              refine xr_ior d_S_approve_82 ?_
              refine kr_pt (f := 16) hW hx d_S_approve_83 xf_4_95 (by decide) (fun h1 hW he => ?_)
              have hI := hI.appr hx hp
              have h8 := h8.other (f := 16) (i := 12 * r + j) (v := kF c 16 (12 * r + j) ||| ((1 : Int32) <<< (nI p &&& 31))) (by decide) (by decide) (by decide)
              refine xr_aload_n d_S_approve_86 rfl ?_
              refine xr_V0v d_S_approve_87 xv_4_67 hW.this rfl (Nat.le_of_ble_eq_true rfl) (by decide) (s_settle hW hI h8) (fun h9s h9 => ?_)
              obtain ⟨hW, hI, h8, hes⟩ := h9
              refine xr_iconst (v := 1) d_S_approve_90 rfl ?_
              refine xr_ireturn d_S_approve_91 rfl rfl rfl ?_
              rw [w]
              exact ⟨_, rfl, rfl, kQ.of hW hI h8 (hes.trans he)⟩
            · have w := w1.trans (if_pos (Classical.byContradiction (fun q => c69 (hap.2.2.mpr q))))
              refine xr_iconst (v := 0) d_S_approve_72 rfl ?_
              refine xr_ireturn d_S_approve_73 rfl rfl rfl ?_
              rw [w]
              exact ⟨_, rfl, rfl, kQ.of hW hI h8 rfl⟩
          · have w := w0.trans (if_pos c50.symm)
            refine xr_bipush (v := -2) d_S_approve_53 rfl ?_
            refine xr_ireturn d_S_approve_55 rfl rfl rfl ?_
            rw [w]
            exact ⟨_, rfl, rfl, kQ.of hW hI h8 rfl⟩
        · have w : o_appr c (nI r) (nI j) (nI p) = (c, -1) := by
            unfold o_appr
            rw [hnr, hnj, if_neg (fun q => q.2.2.2.2 (kbi_n0 c36))]
          refine xr_iconst (v := -1) d_S_approve_39 rfl ?_
          refine xr_ireturn d_S_approve_40 rfl rfl rfl ?_
          rw [w]
          exact ⟨_, rfl, rfl, kQ.of hW hI h8 rfl⟩
theorem p_needs {g : xm_G} {h : xm_H} {c m : kS} {R : Nat → Option Nat} {A : kA} (hW : kW c R m A h) {a b : Int32} (hI : kI c R) (h8 : kI8 c) : xm_S g 1 m_S_needs (xm_entry m_S_needs [.ref (A 0 0), .int a, .int b]) h (xq_i fun v h' => v = (o_needs c a b).2 ∧ kQ (o_needs c a b).1 m A h h') := by
  show xm_S g 1 m_S_needs (0, [some (.ref (A 0 0)), some (.int a), some (.int b), none], []) h _
  have hb1 := hW.2.2.1
  have hb3 := hW.2.2.2.2
  refine xr_aload_n d_S_needs_0 rfl ?_
  refine xr_getf d_S_needs_1 xf_4_34 hW.this rfl ?_
  refine xr_if_gt (tgt := 24) d_S_needs_4 rfl (fun c4 => ?_) (fun c4 => ?_)
  · have w : o_needs c a b = (c, 0) := if_neg (fun q => by rw [q.1] at c4; exact absurd c4 (by decide))
    refine xr_iconst (v := 0) d_S_needs_24 rfl ?_
    refine xr_ireturn d_S_needs_25 rfl rfl rfl ?_
    rw [w]
    exact ⟨_, rfl, rfl, kQ.of hW hI h8 rfl⟩
  · refine xr_iload_n d_S_needs_7 rfl ?_
    refine xr_if_lt (tgt := 24) d_S_needs_8 rfl (fun c8 => ?_) (fun c8 => ?_)
    · have w : o_needs c a b = (c, 0) := if_neg (fun q => q.2.1 c8)
      refine xr_iconst (v := 0) d_S_needs_24 rfl ?_
      refine xr_ireturn d_S_needs_25 rfl rfl rfl ?_
      rw [w]
      exact ⟨_, rfl, rfl, kQ.of hW hI h8 rfl⟩
    · refine xr_iload_n d_S_needs_11 rfl ?_
      refine xr_iload_n d_S_needs_12 rfl ?_
      refine xr_icmp_ge (tgt := 24) d_S_needs_13 rfl (fun c13 => ?_) (fun c13 => ?_)
      · have w : o_needs c a b = (c, 0) := if_neg (fun q => q.2.2.1 c13)
        refine xr_iconst (v := 0) d_S_needs_24 rfl ?_
        refine xr_ireturn d_S_needs_25 rfl rfl rfl ?_
        rw [w]
        exact ⟨_, rfl, rfl, kQ.of hW hI h8 rfl⟩
      · refine xr_iload_n d_S_needs_16 rfl ?_
        refine xr_aload_n d_S_needs_17 rfl ?_
        refine xr_getf d_S_needs_18 xf_4_27 hW.this rfl ?_
        refine xr_icmp_lt (tgt := 26) d_S_needs_21 rfl (fun c21 => ?_) (fun c21 => ?_)
        · have hq0 : kq c = 0 := by
            rcases Nat.eq_zero_or_pos (kq c) with q | q
            · exact q
            · exact absurd (show (0 : Int32) < nI (kq c) from nI_lt (a := 0) q (by omega)) c4
          obtain ⟨a, ha, rfl⟩ := k_in_ex (v := a) (n := kj c) (by omega) ⟨fun q => by rw [ki_nle] at c13; rw [ki_nlt] at c8; exact absurd (show (0 : Int32) < a by rw [Int32.lt_iff_toInt_lt] at *; rw [Int32.le_iff_toInt_le] at c8; omega) (by rw [ki_nlt]; rw [Int32.lt_iff_toInt_lt] at q; rw [Int32.le_iff_toInt_le]; omega), ki_nle.mpr c21⟩
          obtain ⟨b, hb, rfl⟩ := k_in_ex (v := b) (n := a) (by omega) ⟨c8, c13⟩
          have hna : k_n (nI a) = a := nI_clamp (by omega)
          have hnb : k_n (nI b) = b := nI_clamp (by omega)
          refine xr_aload_n d_S_needs_26 rfl ?_
          refine xr_getf d_S_needs_27 xf_4_11 hW.this rfl ?_
          refine xr_iload_n d_S_needs_30 rfl ?_
          refine kr_jobs (j := a) hW d_S_needs_31 rfl ha ?_
          refine xr_astore_n d_S_needs_32 (Nat.le_of_ble_eq_true rfl) ?_
          refine xr_aload_n d_S_needs_33 rfl ?_
          refine xr_iload_n d_S_needs_34 rfl ?_
          refine xr_V1i d_S_needs_35 xv_4_46 (hW.job ha) rfl rfl (Nat.le_of_ble_eq_true rfl) (by decide) (s_isNeeding (k := b) hW ha) (fun v h1 h9 => ?_)
          obtain ⟨rfl, e9⟩ := h9
          have e9 := e9.symm
          subst e9
          refine xr_if_eq (tgt := 43) d_S_needs_38 rfl (fun c38 => ?_) (fun c38 => ?_)
          · have w : o_needs c (nI a) (nI b) = (kw c 3 a (kF c 3 a ||| ((1 : Int32) <<< (nI b &&& 31))), 1) := by
              unfold o_needs
              rw [hna, hnb, if_pos ⟨hq0, c8, c13, ki_nle.mpr c21, kbi_0.mp c38⟩]
            refine xr_aload_n d_S_needs_43 rfl ?_
            refine xr_dup d_S_needs_44 rfl ?_
            refine xr_getf d_S_needs_45 xf_4_50 (hW.job ha) rfl ?_
            refine xr_iconst (v := 1) d_S_needs_48 rfl ?_
            refine xr_iload_n d_S_needs_49 rfl ?_
            refine xr_ishl d_S_needs_50 ?_
            refine xr_ior d_S_needs_51 ?_
            refine kr_pneed hW ha d_S_needs_52 xf_4_50 (fun h1 hW he => ?_)
            refine xr_iconst (v := 1) d_S_needs_55 rfl ?_
            refine xr_ireturn d_S_needs_56 rfl rfl rfl ?_
            rw [w]
            exact ⟨_, rfl, rfl, kQ.of hW (hI.needs hb ha (fun k q1 q2 q3 => (k_bit_or _ _ q2 q3).elim (hI.2.2.2.2.2.2.2.1 a k q1 q2) (fun z => by have := k_bit_1 b (by omega) k q2 z; omega))) (h8.other (by decide) (by decide) (by decide)) he⟩
          · have w : o_needs c (nI a) (nI b) = (c, 0) := by
              unfold o_needs
              rw [hna, hnb, if_neg (fun q => q.2.2.2.2 (kbi_n0 c38))]
            refine xr_iconst (v := 0) d_S_needs_41 rfl ?_
            refine xr_ireturn d_S_needs_42 rfl rfl rfl ?_
            rw [w]
            exact ⟨_, rfl, rfl, kQ.of hW hI h8 rfl⟩
        · have w : o_needs c a b = (c, 0) := if_neg (fun q => q.2.2.2.1 (ki_nlt.mp c21))
          refine xr_iconst (v := 0) d_S_needs_24 rfl ?_
          refine xr_ireturn d_S_needs_25 rfl rfl rfl ?_
          rw [w]
          exact ⟨_, rfl, rfl, kQ.of hW hI h8 rfl⟩
end
section
/-! the world grows: a job, a runner -/
theorem xm_up_up (f : Nat → Option xm_E) (a : Nat) (e e' : xm_E) : xm_up (xm_up f a e) a e' = xm_up f a e' := by
  funext q
  by_cases h : q = a
  · rw [h, xm_up_self, xm_up_self]
  · rw [xm_up_ne _ _ h, xm_up_ne _ _ h, xm_up_ne _ _ h]
theorem kW.frame {c : kS} {R : Nat → Option Nat} {m : kS} {A : kA} {h h2 : xm_H} (hW : kW c R m A h) (hq : ∀ q, q < h.2.1 → h2.1 q = h.1 q) (hz : h.2.1 ≤ h2.2.1) : kW c R m A h2 :=
  ⟨fun k i hk => ⟨(hq _ (hW.1 k i hk).2).trans (hW.1 k i hk).1, Nat.lt_of_lt_of_le (hW.1 k i hk).2 hz⟩, hW.2⟩
def upA (A : kA) (k0 i0 a : Nat) : kA := fun k i => if k = k0 ∧ i = i0 then a else A k i
theorem upA_s (A : kA) (k0 i0 a : Nat) : upA A k0 i0 a k0 i0 = a := if_pos ⟨rfl, rfl⟩
theorem upA_k (A : kA) {k0 i0 a k i : Nat} (h : k ≠ k0) : upA A k0 i0 a k i = A k i := if_neg (fun q => h q.1)
theorem upA_i (A : kA) {k0 i0 a k i : Nat} (h : i ≠ i0) : upA A k0 i0 a k i = A k i := if_neg (fun q => h q.2)
theorem upA_f (A : kA) {k0 i0 a k : Nat} (h : k ≠ k0) : upA A k0 i0 a k = A k := by
  funext i
  exact upA_k A h
theorem kd6_A {m : kS} {A A' : kA} (h : ∀ i, A' 6 i = A 6 i) (i : Nat) : kd6 m A' i = kd6 m A i := by
  match i with
  | 0 => simp only [kd6, h]
  | i + 1 => rfl
/-- a new job -/
def k_addJ (s : kS) (l li re al ap : Int32) : kS := ((kj s + 1, kr s, kq s), (kw (kw (kw (kw (kw s 0 (kj s) l) 1 (kj s) li) 2 (kj s) re) 4 (kj s) al) 5 (kj s) ap).2)
theorem k_addJ_F (s : kS) (l li re al ap : Int32) (f i : Nat) : kF (k_addJ s l li re al ap) f i = if f = 5 ∧ i = kj s then ap else if f = 4 ∧ i = kj s then al else if f = 2 ∧ i = kj s then re else if f = 1 ∧ i = kj s then li else if f = 0 ∧ i = kj s then l else kF s f i := rfl
theorem k_addJ_o (s : kS) (l li re al ap : Int32) {f i : Nat} (h : i ≠ kj s) : kF (k_addJ s l li re al ap) f i = kF s f i := by
  rw [k_addJ_F, if_neg (fun q => h q.2), if_neg (fun q => h q.2), if_neg (fun q => h q.2), if_neg (fun q => h q.2), if_neg (fun q => h q.2)]
theorem k_addJ_n (s : kS) (l li re al ap : Int32) {f i : Nat} (h : 6 ≤ f) : kF (k_addJ s l li re al ap) f i = kF s f i := by
  rw [k_addJ_F, if_neg (by omega), if_neg (by omega), if_neg (by omega), if_neg (by omega), if_neg (by omega)]
theorem kW.addJ {c : kS} {R : Nat → Option Nat} {m : kS} {A : kA} {h : xm_H} {l li re al ap : Int32} {a : Nat} (hW : kW c R m A h) (h0 : kq c = 0) (h12 : kj c < 12) (h3 : kF c 3 (kj c) = 0) (ha : ∀ k i, kv c k i → A k i ≠ a) (hal : a < h.2.1)
    (ho : h.1 a = some (.inl (0, [.int l, .int li, .int re, .int al, .int ap, .int 0]))) :
    kW (k_addJ c l li re al ap) R m (upA A 1 (kj c) a) (xm_up (xm_up h.1 (A 0 1) (.inr (2, 12, updV (fun j => va_rf (if j < kj c then some (A 1 j) else none)) (nI (kj c)).toNatClampNeg (.ref a)))) (A 0 0) (.inl (4, [.ref (A 0 1), .ref (A 0 2), .ref (A 0 3), .int (nI (kj c) + 1), .int (nI (kr c)), .int (nI (kq c)), .int (kc c), .int (kl c)])), h.2) := by
  have v00 : kv c 0 0 := show 0 < 4 by decide
  have v01 : kv c 0 1 := show 1 < 4 by decide
  have hA6 : ∀ i, upA A 1 (kj c) a 6 i = A 6 i := fun i => upA_k A (by decide)
  -- a cell that is neither of the two
  have old : ∀ k i, kv c k i → ¬ (k = 0 ∧ i = 0) → ¬ (k = 0 ∧ i = 1) → xm_up (xm_up h.1 (A 0 1) (.inr (2, 12, updV (fun j => va_rf (if j < kj c then some (A 1 j) else none)) (nI (kj c)).toNatClampNeg (.ref a)))) (A 0 0) (.inl (4, [.ref (A 0 1), .ref (A 0 2), .ref (A 0 3), .int (nI (kj c) + 1), .int (nI (kr c)), .int (nI (kq c)), .int (kc c), .int (kl c)])) (A k i) = some (kd c R m A k i) := fun k i hk n0 n1 => by
    rw [xm_up_ne _ _ (fun z => n0 (hW.2.1 k i 0 0 hk v00 z)), xm_up_ne _ _ (fun z => n1 (hW.2.1 k i 0 1 hk v01 z))]
    exact (hW.1 k i hk).1
  have inv : ∀ k i, kv (k_addJ c l li re al ap) k i → kv c k i ∨ (k = 1 ∧ i = kj c) := fun k i hk => by
    match k, hk with
    | 0, hk => exact Or.inl hk
    | 1, hk =>
      have hk : i < kj c + 1 := hk
      rcases Nat.lt_or_ge i (kj c) with q | q
      · exact Or.inl q
      · exact Or.inr ⟨rfl, by omega⟩
    | 2, hk => exact Or.inl hk
    | 3, hk => exact Or.inl hk
    | 4, hk => exact Or.inl hk
    | 5, hk =>
      have hk : i < 12 * kq c ∧ i % 12 < kj c + 1 := hk
      rw [h0] at hk
      exact absurd hk.1 (by omega)
    | 6, hk => exact Or.inl hk
    | k + 7, hk => exact hk.elim
  have up : ∀ k i, kv c k i → upA A 1 (kj c) a k i = A k i := fun k i hk => by
    by_cases e : k = 1 ∧ i = kj c
    · obtain ⟨rfl, rfl⟩ := e
      exact absurd hk (Nat.lt_irrefl _)
    · exact if_neg e
  refine ⟨fun k i hk => ?_, fun k i k' i' hk hk' e => ?_, ⟨Nat.succ_le_of_lt h12, hW.2.2.2⟩⟩
  · rcases inv k i hk with hk | ⟨rfl, rfl⟩
    · rw [up k i hk]
      refine ⟨?_, (hW.1 k i hk).2⟩
      by_cases n0 : k = 0 ∧ i = 0
      · obtain ⟨rfl, rfl⟩ := n0
        show xm_up _ (A 0 0) _ (A 0 0) = _
        rw [xm_up_self]
        simp only [kd, kd0, upA_k A (show (0 : Nat) ≠ 1 by decide), nI_1]
        rfl
      · by_cases n1 : k = 0 ∧ i = 1
        · obtain ⟨rfl, rfl⟩ := n1
          show xm_up _ (A 0 0) _ (A 0 1) = _
          rw [xm_up_ne _ _ (fun z => absurd (hW.2.1 0 1 0 0 v01 v00 z).2 (by decide)), xm_up_self]
          simp only [kd, kd0]
          rw [nI_clamp (by omega)]
          congr 4
          funext j
          show updV _ (kj c) _ j = va_rf (if j < kj c + 1 then some (upA A 1 (kj c) a 1 j) else none)
          unfold updV
          by_cases e : j = kj c
          · rw [if_pos e, e, if_pos (Nat.lt_succ_self _), upA_s]; rfl
          · rw [if_neg e, upA_i A e]
            by_cases q : j < kj c
            · dsimp only; rw [if_pos q, if_pos (by omega)]
            · dsimp only; rw [if_neg q, if_neg (by omega)]
        · refine (old k i hk n0 n1).trans ?_
          congr 1
          match k, hk with
          | 0, hk =>
            match i, n0, n1 with
            | 0, n0, _ => exact absurd ⟨rfl, rfl⟩ n0
            | 1, _, n1 => exact absurd ⟨rfl, rfl⟩ n1
            | 2, _, _ => simp only [kd, kd0, upA_k A (show (2 : Nat) ≠ 1 by decide)]; rfl
            | i + 3, _, _ => simp only [kd, kd0, upA_k A (show (3 : Nat) ≠ 1 by decide)]; rfl
          | 1, hk =>
            have hk : i < kj c := hk
            simp only [kd, kd1, k_addJ_o c l li re al ap (show i ≠ kj c by omega)]
          | 2, hk => simp only [kd, kd2, k_addJ_n c l li re al ap (show 6 ≤ 17 by decide), k_addJ_n c l li re al ap (show 6 ≤ 18 by decide), k_addJ_n c l li re al ap (show 6 ≤ 19 by decide), upA_f A (show (5 : Nat) ≠ 1 by decide)]
          | 3, hk => exact absurd (show i < kq c from hk) (by omega)
          | 4, hk => exact absurd (show i < kq c from hk) (by omega)
          | 5, hk => exact absurd (show i < 12 * kq c ∧ _ from hk).1 (by omega)
          | 6, hk => exact (kd6_A hA6 i).symm
          | k + 7, hk => exact hk.elim
    · rw [upA_s]
      refine ⟨?_, hal⟩
      show xm_up _ (A 0 0) _ a = _
      rw [xm_up_ne _ _ (fun z => ha 0 0 v00 z.symm), xm_up_ne _ _ (fun z => ha 0 1 v01 z.symm), ho]
      simp only [kd, kd1, k_addJ_F]
      simp [h3]
  · rcases inv k i hk with hk | ⟨rfl, rfl⟩ <;> rcases inv k' i' hk' with hk' | ⟨rfl, rfl⟩
    · rw [up k i hk, up k' i' hk'] at e
      exact hW.2.1 k i k' i' hk hk' e
    · rw [up k i hk, upA_s] at e
      exact absurd e (ha k i hk)
    · rw [up k' i' hk', upA_s] at e
      exact absurd e.symm (ha k' i' hk')
    · exact ⟨rfl, rfl⟩
theorem kI.addJ {s : kS} {R : Nat → Option Nat} (h : kI s R) {l li re al ap : Int32} (h0 : kq s = 0) (h12 : kj s < 12) : kI (k_addJ s l li re al ap) R := by
  obtain ⟨a1, a2, a3, a4, a5, a6, a7, a8, a9⟩ := h
  have no : ∀ x, ¬ k_ok s x := fun x q => by have := q.1; rw [h0] at this; omega
  have no' : ∀ x, ¬ k_ok (k_addJ s l li re al ap) x := fun x q => by
    have : x < 12 * kq s := q.1
    rw [h0] at this
    omega
  refine ⟨⟨Nat.succ_le_of_lt h12, a1.2⟩, fun x u e => absurd (a2 x u e).1 (no x), fun u hu => ?_, fun x hx => absurd hx (no' x), fun x hx f f1 f2 => ?_, fun r => ⟨fun hr => ?_, fun hr => ?_⟩, fun x => ?_, fun j k q1 q2 => ?_, fun x => ?_⟩
  · rw [k_addJ_n _ _ _ _ _ _ (by decide)]; exact a3 u hu
  · rw [k_addJ_n _ _ _ _ _ _ (by omega)]; exact a5 x (no x) f f1 f2
  · rw [k_addJ_n _ _ _ _ _ _ (by decide)]; exact (a6 r).1 hr
  · have hr : kj s + 1 ≤ r := hr
    rw [k_addJ_o _ _ _ _ _ _ (by omega)]; exact (a6 r).2 (by omega)
  · rw [k_addJ_n _ _ _ _ _ _ (by decide), k_addJ_n _ _ _ _ _ _ (by decide)]; exact a7 x
  · rw [k_addJ_F, if_neg (by omega), if_neg (by omega), if_neg (by omega), if_neg (by omega), if_neg (by omega)]; exact a8 j k q1 q2
  · rw [k_addJ_n _ _ _ _ _ _ (by decide)]; exact a9 x
theorem kI8.none {s : kS} (h0 : kq s = 0) : kI8 s := fun x hx => by
  have := hx.1
  rw [h0] at this
  omega
def o_job (s : kS) (l li re al ap : Int32) : kS × Int32 := if kj s = 12 ∨ ¬ kq s = 0 ∨ li < 0 ∨ re < 0 ∨ 3 < re then (s, -1) else (k_addJ s (l &&& 255) li re al ap, nI (kj s))
/-- a new runner -/
def k_addU (s : kS) (l : Int32) : kS := ((kj s, kr s + 1, kq s), (kw (kw (kw s 17 (kr s) l) 18 (kr s) (kc s)) 19 (kr s) (-1)).2)
theorem k_addU_F (s : kS) (l : Int32) (f i : Nat) : kF (k_addU s l) f i = if f = 19 ∧ i = kr s then -1 else if f = 18 ∧ i = kr s then kc s else if f = 17 ∧ i = kr s then l else kF s f i := rfl
theorem k_addU_o (s : kS) (l : Int32) {f i : Nat} (h : i ≠ kr s) : kF (k_addU s l) f i = kF s f i := by
  rw [k_addU_F, if_neg (fun q => h q.2), if_neg (fun q => h q.2), if_neg (fun q => h q.2)]
theorem k_addU_n (s : kS) (l : Int32) {f i : Nat} (h : f < 17) : kF (k_addU s l) f i = kF s f i := by
  rw [k_addU_F, if_neg (by omega), if_neg (by omega), if_neg (by omega)]
theorem kW.addU {c : kS} {R : Nat → Option Nat} {m : kS} {A : kA} {h : xm_H} {l : Int32} {a : Nat} (hW : kW c R m A h) (h6 : kr c < 6) (hR : ∀ x u, R x = some u → u < kr c) (ha : ∀ k i, kv c k i → A k i ≠ a) (hal : a < h.2.1)
    (ho : h.1 a = some (.inl (2, [.int (nI (kr c)), .int l, .int (kc c), .null]))) :
    kW (k_addU c l) R m (upA A 2 (kr c) a) (xm_up (xm_up h.1 (A 0 2) (.inr (3, 6, updV (fun j => va_rf (if j < kr c then some (A 2 j) else none)) (nI (kr c)).toNatClampNeg (.ref a)))) (A 0 0) (.inl (4, [.ref (A 0 1), .ref (A 0 2), .ref (A 0 3), .int (nI (kj c)), .int (nI (kr c) + 1), .int (nI (kq c)), .int (kc c), .int (kl c)])), h.2) := by
  have v00 : kv c 0 0 := show 0 < 4 by decide
  have v02 : kv c 0 2 := show 2 < 4 by decide
  have hA6 : ∀ i, upA A 2 (kr c) a 6 i = A 6 i := fun i => upA_k A (by decide)
  have old : ∀ k i, kv c k i → ¬ (k = 0 ∧ i = 0) → ¬ (k = 0 ∧ i = 2) → xm_up (xm_up h.1 (A 0 2) (.inr (3, 6, updV (fun j => va_rf (if j < kr c then some (A 2 j) else none)) (nI (kr c)).toNatClampNeg (.ref a)))) (A 0 0) (.inl (4, [.ref (A 0 1), .ref (A 0 2), .ref (A 0 3), .int (nI (kj c)), .int (nI (kr c) + 1), .int (nI (kq c)), .int (kc c), .int (kl c)])) (A k i) = some (kd c R m A k i) := fun k i hk n0 n1 => by
    rw [xm_up_ne _ _ (fun z => n0 (hW.2.1 k i 0 0 hk v00 z)), xm_up_ne _ _ (fun z => n1 (hW.2.1 k i 0 2 hk v02 z))]
    exact (hW.1 k i hk).1
  have inv : ∀ k i, kv (k_addU c l) k i → kv c k i ∨ (k = 2 ∧ i = kr c) := fun k i hk => by
    match k, hk with
    | 0, hk => exact Or.inl hk
    | 1, hk => exact Or.inl hk
    | 2, hk =>
      have hk : i < kr c + 1 := hk
      rcases Nat.lt_or_ge i (kr c) with q | q
      · exact Or.inl q
      · exact Or.inr ⟨rfl, by omega⟩
    | 3, hk => exact Or.inl hk
    | 4, hk => exact Or.inl hk
    | 5, hk => exact Or.inl hk
    | 6, hk => exact Or.inl hk
    | k + 7, hk => exact hk.elim
  have up : ∀ k i, kv c k i → upA A 2 (kr c) a k i = A k i := fun k i hk => by
    by_cases e : k = 2 ∧ i = kr c
    · obtain ⟨rfl, rfl⟩ := e
      exact absurd hk (Nat.lt_irrefl _)
    · exact if_neg e
  refine ⟨fun k i hk => ?_, fun k i k' i' hk hk' e => ?_, ⟨hW.2.2.1, Nat.succ_le_of_lt h6, hW.2.2.2.2⟩⟩
  · rcases inv k i hk with hk | ⟨rfl, rfl⟩
    · rw [up k i hk]
      refine ⟨?_, (hW.1 k i hk).2⟩
      by_cases n0 : k = 0 ∧ i = 0
      · obtain ⟨rfl, rfl⟩ := n0
        show xm_up _ (A 0 0) _ (A 0 0) = _
        rw [xm_up_self]
        simp only [kd, kd0, upA_k A (show (0 : Nat) ≠ 2 by decide), nI_1]
        rfl
      · by_cases n1 : k = 0 ∧ i = 2
        · obtain ⟨rfl, rfl⟩ := n1
          show xm_up _ (A 0 0) _ (A 0 2) = _
          rw [xm_up_ne _ _ (fun z => absurd (hW.2.1 0 2 0 0 v02 v00 z).2 (by decide)), xm_up_self]
          simp only [kd, kd0]
          rw [nI_clamp (by omega)]
          congr 4
          funext j
          show updV _ (kr c) _ j = va_rf (if j < kr c + 1 then some (upA A 2 (kr c) a 2 j) else none)
          unfold updV
          by_cases e : j = kr c
          · rw [if_pos e, e, if_pos (Nat.lt_succ_self _), upA_s]; rfl
          · rw [if_neg e, upA_i A e]
            by_cases q : j < kr c
            · dsimp only; rw [if_pos q, if_pos (by omega)]
            · dsimp only; rw [if_neg q, if_neg (by omega)]
        · refine (old k i hk n0 n1).trans ?_
          congr 1
          match k, hk with
          | 0, hk =>
            match i, n0, n1 with
            | 0, n0, _ => exact absurd ⟨rfl, rfl⟩ n0
            | 1, _, _ => simp only [kd, kd0, upA_k A (show (1 : Nat) ≠ 2 by decide)]; rfl
            | 2, _, n1 => exact absurd ⟨rfl, rfl⟩ n1
            | i + 3, _, _ => simp only [kd, kd0, upA_k A (show (3 : Nat) ≠ 2 by decide)]; rfl
          | 1, hk => simp only [kd, kd1, k_addU_n c l (show 0 < 17 by decide), k_addU_n c l (show 1 < 17 by decide), k_addU_n c l (show 2 < 17 by decide), k_addU_n c l (show 3 < 17 by decide), k_addU_n c l (show 4 < 17 by decide), k_addU_n c l (show 5 < 17 by decide)]
          | 2, hk =>
            have hk : i < kr c := hk
            simp only [kd, kd2, k_addU_o c l (show i ≠ kr c by omega), upA_f A (show (5 : Nat) ≠ 2 by decide)]
          | 3, hk => simp only [kd, kd3, k_addU_n c l (show 6 < 17 by decide), k_addU_n c l (show 7 < 17 by decide), k_addU_n c l (show 8 < 17 by decide), upA_k A (show (4 : Nat) ≠ 2 by decide)]
          | 4, hk => simp only [kd, kd4, upA_k A (show (5 : Nat) ≠ 2 by decide)]; rfl
          | 5, hk =>
            have e2 : (R i).map (upA A 2 (kr c) a 2) = (R i).map (A 2) := by
              cases hRi : R i with
              | none => rfl
              | some u => show some _ = some _; rw [upA_i A (show u ≠ kr c by have := hR i u hRi; omega)]
            simp only [kd, kd5, e2, k_addU_n c l (show 9 < 17 by decide), k_addU_n c l (show 10 < 17 by decide), k_addU_n c l (show 11 < 17 by decide), k_addU_n c l (show 12 < 17 by decide), k_addU_n c l (show 13 < 17 by decide), k_addU_n c l (show 14 < 17 by decide), k_addU_n c l (show 15 < 17 by decide), k_addU_n c l (show 16 < 17 by decide), upA_k A (show (3 : Nat) ≠ 2 by decide), upA_k A (show (1 : Nat) ≠ 2 by decide)]
          | 6, hk => exact (kd6_A hA6 i).symm
          | k + 7, hk => exact hk.elim
    · rw [upA_s]
      refine ⟨?_, hal⟩
      show xm_up _ (A 0 0) _ a = _
      rw [xm_up_ne _ _ (fun z => ha 0 0 v00 z.symm), xm_up_ne _ _ (fun z => ha 0 2 v02 z.symm), ho]
      simp only [kd, kd2, k_addU_F]
      simp [khx, va_rf]
  · rcases inv k i hk with hk | ⟨rfl, rfl⟩ <;> rcases inv k' i' hk' with hk' | ⟨rfl, rfl⟩
    · rw [up k i hk, up k' i' hk'] at e
      exact hW.2.1 k i k' i' hk hk' e
    · rw [up k i hk, upA_s] at e
      exact absurd e (ha k i hk)
    · rw [up k' i' hk', upA_s] at e
      exact absurd e.symm (ha k' i' hk')
    · exact ⟨rfl, rfl⟩
theorem kI.addU {s : kS} {R : Nat → Option Nat} (h : kI s R) {l : Int32} (h6 : kr s < 6) : kI (k_addU s l) R := by
  obtain ⟨a1, a2, a3, a4, a5, a6, a7, a8, a9⟩ := h
  refine ⟨⟨a1.1, Nat.succ_le_of_lt h6, a1.2.2⟩, fun x u e => ?_, fun u hu => ?_, fun x hx => ?_, fun x hx f f1 f2 => ?_, fun r => ⟨fun hr => ?_, fun hr => ?_⟩, fun x => ?_, fun j k q1 q2 => ?_, fun x => ?_⟩
  · obtain ⟨b1, b2, b3⟩ := a2 x u e
    refine ⟨b1, Nat.lt_succ_of_lt b2, ?_⟩
    rw [k_addU_o _ _ (by omega)]; exact b3
  · have hu : u < kr s + 1 := hu
    by_cases e : u = kr s
    · rw [k_addU_F, if_pos ⟨rfl, e⟩]; exact Or.inl rfl
    · rw [k_addU_o _ _ e]; exact a3 u (by omega)
  · rw [k_addU_n _ _ (by decide)]; exact a4 x hx
  · rw [k_addU_n _ _ (by omega)]; exact a5 x hx f f1 f2
  · rw [k_addU_n _ _ (by decide)]; exact (a6 r).1 hr
  · rw [k_addU_n _ _ (by decide)]; exact (a6 r).2 hr
  · rw [k_addU_n _ _ (by decide), k_addU_n _ _ (by decide)]; exact a7 x
  · rw [k_addU_n _ _ (by decide)]; exact a8 j k q1 q2
  · rw [k_addU_n _ _ (by decide)]; exact a9 x
theorem kI8.addU {s : kS} (h : kI8 s) (l : Int32) : kI8 (k_addU s l) := fun x hx h0 => by
  rw [k_addU_n _ _ (by decide)] at h0
  rw [k_addU_n _ _ (by decide), k_addU_n _ _ (by decide)]
  exact h x hx h0
def o_runner (s : kS) (l : Int32) : kS × Int32 := if kr s = 6 then (s, -1) else (k_addU s (l &&& 255), nI (kr s))
end
section
/-! jobs and runners are made -/
theorem r_Job_init {g : xm_G} {h : xm_H} {a : Nat} {v0 v1 v2 v3 v4 v5 : Value} {l li re al ap : Int32} (ha : h.1 a = some (.inl (0, [v0, v1, v2, v3, v4, v5]))) (h1 : al = 0 ∨ al = 1) (h2 : ap = 0 ∨ ap = 1) : xm_S g 1 m_Job_init (xm_entry m_Job_init [.ref a, .int l, .int li, .int re, .int al, .int ap]) h (xq_v fun h' => h' = (xm_up h.1 a (.inl (0, [.int l, .int li, .int re, .int al, .int ap, .int 0])), h.2)) := by
  show xm_S g 1 m_Job_init (0, [some (.ref a), some (.int l), some (.int li), some (.int re), some (.int al), some (.int ap)], []) h _
  refine xr_aload_n d_Job_init_0 rfl ?_
  refine xr_objInit d_Job_init_1 xo_0_1 (Nat.le_of_ble_eq_true rfl) ?_
  refine xr_aload_n d_Job_init_4 rfl ?_
  refine xr_iconst (v := 0) d_Job_init_5 rfl ?_
  refine xr_putf d_Job_init_6 xf_0_7 ha rfl rfl rfl ?_
  refine xr_aload_n d_Job_init_9 rfl ?_
  refine xr_iload_n d_Job_init_10 rfl ?_
  refine xr_putF d_Job_init_11 xf_0_13 (xm_up_self _ _ _) rfl rfl rfl rfl rfl ?_
  refine xr_aload_n d_Job_init_14 rfl ?_
  refine xr_iload_n d_Job_init_15 rfl ?_
  refine xr_putF d_Job_init_16 xf_0_16 (xm_up_self _ _ _) rfl rfl rfl rfl rfl ?_
  refine xr_aload_n d_Job_init_19 rfl ?_
  refine xr_iload_n d_Job_init_20 rfl ?_
  refine xr_putF d_Job_init_21 xf_0_19 (xm_up_self _ _ _) rfl rfl rfl rfl rfl ?_
  refine xr_aload_n d_Job_init_24 rfl ?_
  refine xr_iload d_Job_init_25 rfl ?_
  refine xr_putF d_Job_init_27 xf_0_22 (xm_up_self _ _ _) rfl rfl rfl (by rcases h1 with rfl | rfl <;> rfl) (by rcases h1 with rfl | rfl <;> rfl) ?_
  refine xr_aload_n d_Job_init_30 rfl ?_
  refine xr_iload d_Job_init_31 rfl ?_
  refine xr_putF d_Job_init_33 xf_0_26 (xm_up_self _ _ _) rfl rfl rfl (by rcases h2 with rfl | rfl <;> rfl) (by rcases h2 with rfl | rfl <;> rfl) ?_
  refine xr_return d_Job_init_36 rfl rfl ?_
  refine ⟨rfl, ?_⟩
  simp only [xm_up_up]
  rfl
theorem r_Rnr_init {g : xm_G} {h : xm_H} {a : Nat} {v0 v1 v2 v3 : Value} {n l b : Int32} (ha : h.1 a = some (.inl (2, [v0, v1, v2, v3])))  : xm_S g 1 m_Rnr_init (xm_entry m_Rnr_init [.ref a, .int n, .int l, .int b]) h (xq_v fun h' => h' = (xm_up h.1 a (.inl (2, [.int n, .int l, .int b, .null])), h.2)) := by
  show xm_S g 1 m_Rnr_init (0, [some (.ref a), some (.int n), some (.int l), some (.int b)], []) h _
  refine xr_aload_n d_Rnr_init_0 rfl ?_
  refine xr_objInit d_Rnr_init_1 xo_2_1 (Nat.le_of_ble_eq_true rfl) ?_
  refine xr_aload_n d_Rnr_init_4 rfl ?_
  refine xr_null d_Rnr_init_5 ?_
  refine xr_putf d_Rnr_init_6 xf_2_7 ha rfl rfl rfl ?_
  refine xr_aload_n d_Rnr_init_9 rfl ?_
  refine xr_iload_n d_Rnr_init_10 rfl ?_
  refine xr_putF d_Rnr_init_11 xf_2_13 (xm_up_self _ _ _) rfl rfl rfl rfl rfl ?_
  refine xr_aload_n d_Rnr_init_14 rfl ?_
  refine xr_iload_n d_Rnr_init_15 rfl ?_
  refine xr_putF d_Rnr_init_16 xf_2_17 (xm_up_self _ _ _) rfl rfl rfl rfl rfl ?_
  refine xr_aload_n d_Rnr_init_19 rfl ?_
  refine xr_iload_n d_Rnr_init_20 rfl ?_
  refine xr_putf d_Rnr_init_21 xf_2_20 (xm_up_self _ _ _) rfl rfl rfl ?_
  refine xr_return d_Rnr_init_24 rfl rfl ?_
  refine ⟨rfl, ?_⟩
  simp only [xm_up_up]
  rfl
theorem p_job {g : xm_G} {h : xm_H} {c m : kS} {R : Nat → Option Nat} {A : kA} (hW : kW c R m A h) {l li re al ap : Int32} (g1 : al = 0 ∨ al = 1) (g2 : ap = 0 ∨ ap = 1) (hI : kI c R) (h8 : kI8 c) : xm_S g 2 m_S_job (xm_entry m_S_job [.ref (A 0 0), .int l, .int li, .int re, .int al, .int ap]) h (xq_i fun v h' => v = (o_job c l li re al ap).2 ∧ kQ (o_job c l li re al ap).1 m A h h') := by
  show xm_S g 2 m_S_job (0, [some (.ref (A 0 0)), some (.int l), some (.int li), some (.int re), some (.int al), some (.int ap), none], []) h _
  have hb1 := hW.2.2.1
  have hb3 := hW.2.2.2.2
  refine xr_aload_n d_S_job_0 rfl ?_
  refine xr_getf d_S_job_1 xf_4_27 hW.this rfl ?_
  refine xr_bipush (v := 12) d_S_job_4 rfl ?_
  refine xr_icmp_ge (tgt := 16) d_S_job_6 rfl (fun c6 => ?_) (fun c6 => ?_)
  · have w : o_job c l li re al ap = (c, -1) := if_pos (Or.inl (by
      rcases Nat.lt_or_ge (kj c) 12 with q | q
      · exact absurd c6 (nI_ge (b := 12) q (by decide))
      · omega))
    refine xr_iconst (v := -1) d_S_job_16 rfl ?_
    refine xr_ireturn d_S_job_17 rfl rfl rfl ?_
    rw [w]
    exact ⟨_, rfl, rfl, kQ.of hW hI h8 rfl⟩
  · refine xr_aload_n d_S_job_9 rfl ?_
    refine xr_getf d_S_job_10 xf_4_34 hW.this rfl ?_
    refine xr_if_le (tgt := 18) d_S_job_13 rfl (fun c13 => ?_) (fun c13 => ?_)
    · have hq0 : kq c = 0 := by
        rcases Nat.eq_zero_or_pos (kq c) with q | q
        · exact q
        · exact absurd c13 (ki_nle.mpr (show (0 : Int32) < nI (kq c) from nI_lt (a := 0) q (by omega)))
      refine xr_iload_n d_S_job_18 rfl ?_
      refine xr_if_lt (tgt := 31) d_S_job_19 rfl (fun c19 => ?_) (fun c19 => ?_)
      · have w : o_job c l li re al ap = (c, -1) := if_pos (Or.inr (Or.inr (Or.inl c19)))
        refine xr_iconst (v := -1) d_S_job_31 rfl ?_
        refine xr_ireturn d_S_job_32 rfl rfl rfl ?_
        rw [w]
        exact ⟨_, rfl, rfl, kQ.of hW hI h8 rfl⟩
      · refine xr_iload_n d_S_job_22 rfl ?_
        refine xr_if_lt (tgt := 31) d_S_job_23 rfl (fun c23 => ?_) (fun c23 => ?_)
        · have w : o_job c l li re al ap = (c, -1) := if_pos (Or.inr (Or.inr (Or.inr (Or.inl c23))))
          refine xr_iconst (v := -1) d_S_job_31 rfl ?_
          refine xr_ireturn d_S_job_32 rfl rfl rfl ?_
          rw [w]
          exact ⟨_, rfl, rfl, kQ.of hW hI h8 rfl⟩
        · refine xr_iload_n d_S_job_26 rfl ?_
          refine xr_iconst (v := 3) d_S_job_27 rfl ?_
          refine xr_icmp_le (tgt := 33) d_S_job_28 rfl (fun c28 => ?_) (fun c28 => ?_)
          · have h12 : kj c < 12 := by
              rcases Nat.lt_or_ge (kj c) 12 with q | q
              · exact q
              · exact absurd (nI_le (a := 12) q (by omega)) c6
            have w : o_job c l li re al ap = (k_addJ c (l &&& 255) li re al ap, nI (kj c)) := if_neg (by
              rintro (q | q | q | q | q)
              · omega
              · exact q hq0
              · exact c19 q
              · exact c23 q
              · exact ki_nlt.mpr c28 q)
            refine xr_aload_n d_S_job_33 rfl ?_
            refine xr_getf d_S_job_34 xf_4_27 hW.this rfl ?_
            refine xr_istore d_S_job_37 (Nat.le_of_ble_eq_true rfl) ?_
            refine xr_aload_n d_S_job_39 rfl ?_
            refine xr_getf d_S_job_40 xf_4_11 hW.this rfl ?_
            refine xr_iload d_S_job_43 rfl ?_
            refine xr_new (fs := [.int 0, .int 0, .int 0, .int 0, .int 0, .int 0]) (N := 6) d_S_job_45 xc_4_9 rfl rfl ?_
            refine xr_dup d_S_job_48 rfl ?_
            refine xr_iload_n d_S_job_49 rfl ?_
            refine xr_sipush (v := 255) d_S_job_50 rfl ?_
            refine xr_iand d_S_job_53 ?_
            refine xr_iload_n d_S_job_54 rfl ?_
            refine xr_iload_n d_S_job_55 rfl ?_
            refine xr_iload d_S_job_56 rfl ?_
            refine xr_iload d_S_job_58 rfl ?_
            refine xr_I5v d_S_job_60 xi_4_43 rfl rfl rfl rfl rfl rfl (Nat.le_of_ble_eq_true rfl) (by decide) (r_Job_init (xm_up_self _ _ _) g1 g2) (fun h1 h9 => ?_)
            have ha : ∀ k i, kv c k i → A k i ≠ h.2.1 := fun k i hk => Nat.ne_of_lt (hW.1 k i hk).2
            have hW1 : kW c R m A h1 := hW.frame (fun q hq => by rw [h9]; show xm_up (xm_up h.1 h.2.1 _) h.2.1 _ q = _; rw [xm_up_ne _ _ (Nat.ne_of_lt hq), xm_up_ne _ _ (Nat.ne_of_lt hq)]) (by rw [h9]; exact Nat.le_succ _)
            have ho : h1.1 h.2.1 = some (.inl (0, [.int (l &&& 255), .int li, .int re, .int al, .int ap, .int 0])) := by rw [h9]; exact xm_up_self _ _ _
            have hz : h1.2 = (h.2.1 + 1, h.2.2 + 6) := by rw [h9]
            have n01 : A 0 0 ≠ A 0 1 := fun z => absurd (hW.2.1 0 0 0 1 (show 0 < 4 by decide) (show 1 < 4 by decide) z).2 (by decide)
            clear h9
            refine xr_aast (ci := 0) (Cn := "JobStates$Job") d_S_job_63 hW1.ajob rfl rfl ho (vp_in_nI h12 (by decide)) ?_
            refine xr_aload_n d_S_job_64 rfl ?_
            refine xr_dup d_S_job_65 rfl ?_
            refine xr_getf d_S_job_66 xf_4_27 (show xm_up h1.1 (A 0 1) _ (A 0 0) = _ from (xm_up_ne _ _ n01).trans hW1.this) rfl ?_
            refine xr_iconst (v := 1) d_S_job_69 rfl ?_
            refine xr_iadd d_S_job_70 ?_
            refine xr_putf d_S_job_71 xf_4_27 (show xm_up h1.1 (A 0 1) _ (A 0 0) = _ from (xm_up_ne _ _ n01).trans hW1.this) rfl rfl rfl ?_
            refine xr_iload d_S_job_74 rfl ?_
            refine xr_ireturn d_S_job_76 rfl rfl rfl ?_
            rw [w]
            refine ⟨_, rfl, rfl, R, upA A 1 (kj c) h.2.1, hW1.addJ hq0 h12 ((hI.2.2.2.2.2.1 (kj c)).2 (Nat.le_refl _)) ha (by rw [hz]; exact Nat.lt_succ_self _) ho, hI.addJ hq0 h12, kI8.none hq0, upA_k A (by decide), upA_k A (by decide), ?_, ?_⟩
            · show h1.2.1 ≤ _; rw [hz]; show h.2.1 + 1 ≤ _; omega
            · show h1.2.2 ≤ _; rw [hz]; show h.2.2 + 6 ≤ _; omega
          · have w : o_job c l li re al ap = (c, -1) := if_pos (Or.inr (Or.inr (Or.inr (Or.inr (ki_nle.mp c28)))))
            refine xr_iconst (v := -1) d_S_job_31 rfl ?_
            refine xr_ireturn d_S_job_32 rfl rfl rfl ?_
            rw [w]
            exact ⟨_, rfl, rfl, kQ.of hW hI h8 rfl⟩
    · have w : o_job c l li re al ap = (c, -1) := if_pos (Or.inr (Or.inl (fun q => by rw [q] at c13; exact absurd (show nI 0 ≤ 0 by decide) c13)))
      refine xr_iconst (v := -1) d_S_job_16 rfl ?_
      refine xr_ireturn d_S_job_17 rfl rfl rfl ?_
      rw [w]
      exact ⟨_, rfl, rfl, kQ.of hW hI h8 rfl⟩
theorem p_runner {g : xm_G} {h : xm_H} {c m : kS} {R : Nat → Option Nat} {A : kA} (hW : kW c R m A h) {l : Int32} (hI : kI c R) (h8 : kI8 c) : xm_S g 2 m_S_runner (xm_entry m_S_runner [.ref (A 0 0), .int l]) h (xq_i fun v h' => v = (o_runner c l).2 ∧ kQ (o_runner c l).1 m A h h') := by
  show xm_S g 2 m_S_runner (0, [some (.ref (A 0 0)), some (.int l), none], []) h _
  have hb2 := hW.2.2.2.1
  refine xr_aload_n d_S_runner_0 rfl ?_
  refine xr_getf d_S_runner_1 xf_4_31 hW.this rfl ?_
  refine xr_bipush (v := 6) d_S_runner_4 rfl ?_
  refine xr_icmp_lt (tgt := 11) d_S_runner_6 rfl (fun c6 => ?_) (fun c6 => ?_)
  · have h6 : kr c < 6 := (nI_ltI (by omega) (by decide)).mp c6
    have w : o_runner c l = (k_addU c (l &&& 255), nI (kr c)) := if_neg (by omega)
    refine xr_aload_n d_S_runner_11 rfl ?_
    refine xr_getf d_S_runner_12 xf_4_31 hW.this rfl ?_
    refine xr_istore_n d_S_runner_15 (Nat.le_of_ble_eq_true rfl) ?_
    refine xr_aload_n d_S_runner_16 rfl ?_
    refine xr_getf d_S_runner_17 xf_4_17 hW.this rfl ?_
    refine xr_iload_n d_S_runner_20 rfl ?_
    refine xr_new (fs := [.int 0, .int 0, .int 0, .null]) (N := 4) d_S_runner_21 xc_4_15 rfl rfl ?_
    refine xr_dup d_S_runner_24 rfl ?_
    refine xr_iload_n d_S_runner_25 rfl ?_
    refine xr_iload_n d_S_runner_26 rfl ?_
    refine xr_sipush (v := 255) d_S_runner_27 rfl ?_
    refine xr_iand d_S_runner_30 ?_
    refine xr_aload_n d_S_runner_31 rfl ?_
    refine xr_getf d_S_runner_32 xf_4_37 (show xm_up h.1 h.2.1 _ (A 0 0) = _ from (xm_up_ne _ _ (Nat.ne_of_lt (hW.1 0 0 (show 0 < 4 by decide)).2)).trans hW.this) rfl ?_
    refine xr_I3v d_S_runner_35 xi_4_53 rfl rfl rfl rfl (Nat.le_of_ble_eq_true rfl) (by decide) (r_Rnr_init (xm_up_self _ _ _)) (fun h1 h9 => ?_)
    have ha : ∀ k i, kv c k i → A k i ≠ h.2.1 := fun k i hk => Nat.ne_of_lt (hW.1 k i hk).2
    have hW1 : kW c R m A h1 := hW.frame (fun q hq => by rw [h9]; show xm_up (xm_up h.1 h.2.1 _) h.2.1 _ q = _; rw [xm_up_ne _ _ (Nat.ne_of_lt hq), xm_up_ne _ _ (Nat.ne_of_lt hq)]) (by rw [h9]; exact Nat.le_succ _)
    have ho : h1.1 h.2.1 = some (.inl (2, [.int (nI (kr c)), .int (l &&& 255), .int (kc c), .null])) := by rw [h9]; exact xm_up_self _ _ _
    have hz : h1.2 = (h.2.1 + 1, h.2.2 + 4) := by rw [h9]
    have n02 : A 0 0 ≠ A 0 2 := fun z => absurd (hW.2.1 0 0 0 2 (show 0 < 4 by decide) (show 2 < 4 by decide) z).2 (by decide)
    clear h9
    refine xr_aast (ci := 2) (Cn := "JobStates$Runner") d_S_runner_38 hW1.arnr rfl rfl ho (vp_in_nI h6 (by decide)) ?_
    refine xr_aload_n d_S_runner_39 rfl ?_
    refine xr_dup d_S_runner_40 rfl ?_
    refine xr_getf d_S_runner_41 xf_4_31 (show xm_up h1.1 (A 0 2) _ (A 0 0) = _ from (xm_up_ne _ _ n02).trans hW1.this) rfl ?_
    refine xr_iconst (v := 1) d_S_runner_44 rfl ?_
    refine xr_iadd d_S_runner_45 ?_
    refine xr_putf d_S_runner_46 xf_4_31 (show xm_up h1.1 (A 0 2) _ (A 0 0) = _ from (xm_up_ne _ _ n02).trans hW1.this) rfl rfl rfl ?_
    refine xr_iload_n d_S_runner_49 rfl ?_
    refine xr_ireturn d_S_runner_50 rfl rfl rfl ?_
    rw [w]
    refine ⟨_, rfl, rfl, R, upA A 2 (kr c) h.2.1, hW1.addU h6 (fun x u e => (hI.2.1 x u e).2.1) ha (by rw [hz]; exact Nat.lt_succ_self _) ho, hI.addU h6, h8.addU _, upA_k A (by decide), upA_k A (by decide), ?_, ?_⟩
    · show h1.2.1 ≤ _; rw [hz]; show h.2.1 + 1 ≤ _; omega
    · show h1.2.2 ≤ _; rw [hz]; show h.2.2 + 4 ≤ _; omega
  · have w : o_runner c l = (c, -1) := if_pos (by
      rcases Nat.lt_or_ge (kr c) 6 with q | q
      · exact absurd (nI_lt (b := 6) q (by decide)) c6
      · omega)
    refine xr_iconst (v := -1) d_S_runner_9 rfl ?_
    refine xr_ireturn d_S_runner_10 rfl rfl rfl ?_
    rw [w]
    exact ⟨_, rfl, rfl, kQ.of hW hI h8 rfl⟩
end
section
/-! the world grows: a run -/
theorem xr_ext {g : xm_G} {d : Nat} {y : xm_M} {fr : xm_F} {h : xm_H} {Q : Option Value → xm_H → Prop} {a t n : Nat} {f f' : Nat → Value} (ha : h.1 a = some (.inr (t, n, f))) (hf : ∀ i, i < n → f' i = f i) (K : xm_S g d y fr (xm_up h.1 a (.inr (t, n, f')), h.2) Q) : xm_S g d y fr h Q := by
  obtain ⟨r, h', hq, h1, h2, h3, k⟩ := K
  refine ⟨r, h', hq, h1, h2, h3, fun p e R s m args below meth c H locs cells slots Z la C hR hX hS hl kr => k p e R s m args below meth c H locs cells slots Z la C hR ?_ hS hl kr⟩
  obtain ⟨b1, b2, b3, b4, b5, b6⟩ := hX
  refine ⟨b1, b2, b3, b4, fun q e' hq' => ?_, b6⟩
  by_cases e1 : q = a
  · rw [e1, show (xm_up h.1 a (.inr (t, n, f')), h.2).1 a = some (.inr (t, n, f')) from xm_up_self _ _ _] at hq'
    cases hq'
    obtain ⟨c1, c2⟩ := b5 a _ ha
    refine ⟨by rw [e1]; exact c1, ?_⟩
    have c2 : H[a]? = some (arrV (xm_A g t) n f) := c2
    show H[q]? = some (arrV (xm_A g t) n f')
    rw [e1, c2]
    congr 1
    unfold arrV
    congr 1
    apply Array.ext
    · simp
    · intro i hi1 hi2
      simp only [Array.getElem_ofFn]
      exact (hf i (by simpa using hi1)).symm
  · rw [show (xm_up h.1 a (.inr (t, n, f')), h.2).1 q = h.1 q from xm_up_ne _ _ e1] at hq'
    exact b5 q e' hq'
def k_addQ (s : kS) (p g : Int32) : kS := ((kj s, kr s, kq s + 1), (kw (kw s 6 (kq s) p) 7 (kq s) g).2)
theorem k_addQ_F (s : kS) (p g : Int32) (f i : Nat) : kF (k_addQ s p g) f i = if f = 7 ∧ i = kq s then g else if f = 6 ∧ i = kq s then p else kF s f i := rfl
theorem k_addQ_o (s : kS) (p g : Int32) {f i : Nat} (h : i ≠ kq s) : kF (k_addQ s p g) f i = kF s f i := by
  rw [k_addQ_F, if_neg (fun q => h q.2), if_neg (fun q => h q.2)]
theorem k_addQ_n (s : kS) (p g : Int32) {f i : Nat} (h : f ≠ 6 ∧ f ≠ 7) : kF (k_addQ s p g) f i = kF s f i := by
  rw [k_addQ_F, if_neg (fun q => h.2 q.1), if_neg (fun q => h.1 q.1)]
def kAq (A : kA) (n z : Nat) : kA := fun k i => if k = 3 ∧ i = n then z else if k = 4 ∧ i = n then z + 1 else if k = 5 ∧ 12 * n ≤ i then z + 2 + (i - 12 * n) else A k i
theorem kAq_o (A : kA) (n z : Nat) {k : Nat} (h : k ≠ 3 ∧ k ≠ 4 ∧ k ≠ 5) (i : Nat) : kAq A n z k i = A k i := by
  unfold kAq
  rw [if_neg (fun q => h.1 q.1), if_neg (fun q => h.2.1 q.1), if_neg (fun q => h.2.2 q.1)]
theorem kAq_f (A : kA) (n z : Nat) {k : Nat} (h : k ≠ 3 ∧ k ≠ 4 ∧ k ≠ 5) : kAq A n z k = A k := funext (kAq_o A n z h)
theorem kAq_3 (A : kA) {n z i : Nat} (h : i ≠ n) : kAq A n z 3 i = A 3 i := by
  unfold kAq
  rw [if_neg (fun q => h q.2), if_neg (fun q => absurd q.1 (by decide)), if_neg (fun q => absurd q.1 (by decide))]
theorem kAq_4 (A : kA) {n z i : Nat} (h : i ≠ n) : kAq A n z 4 i = A 4 i := by
  unfold kAq
  rw [if_neg (fun q => absurd q.1 (by decide)), if_neg (fun q => h q.2), if_neg (fun q => absurd q.1 (by decide))]
theorem kAq_5 (A : kA) {n z i : Nat} (h : i < 12 * n) : kAq A n z 5 i = A 5 i := by
  unfold kAq
  rw [if_neg (fun q => absurd q.1 (by decide)), if_neg (fun q => absurd q.1 (by decide)), if_neg (by omega)]
theorem kAq_3n (A : kA) (n z : Nat) : kAq A n z 3 n = z := if_pos ⟨rfl, rfl⟩
theorem kAq_4n (A : kA) (n z : Nat) : kAq A n z 4 n = z + 1 := by
  unfold kAq
  rw [if_neg (fun q => absurd q.1 (by decide)), if_pos ⟨rfl, rfl⟩]
theorem kAq_5n (A : kA) (n z j : Nat) : kAq A n z 5 (12 * n + j) = z + 2 + j := by
  unfold kAq
  rw [if_neg (fun q => absurd q.1 (by decide)), if_neg (fun q => absurd q.1 (by decide)), if_pos ⟨rfl, by omega⟩]
  omega
/-- what a new run's cells are -/
def kNew (c : kS) (A : kA) (z : Nat) (p g : Int32) (h : xm_H) : Prop :=
  h.1 z = some (.inl (1, [.int (nI (kq c)), .int p, .int g, .ref (z + 1), .int 0])) ∧ h.1 (z + 1) = some (.inr (5, kj c, fun i => if i < 12 then .ref (z + 2 + i) else .null)) ∧
  (∀ i, i < kj c → h.1 (z + 2 + i) = some (.inl (3, [.ref z, .int (nI i), .ref (A 1 i), .int 0, .null, .int 0, .int 0, .int 0, .int 0, .int 0, .int 0, .int 0]))) ∧ z + 2 + kj c ≤ h.2.1
theorem kW.addQ {c : kS} {R : Nat → Option Nat} {m : kS} {A : kA} {h : xm_H} {p g : Int32} {z : Nat} (hW : kW c R m A h) (hI : kI c R) (h10 : kq c < 10) (ha : ∀ k i, kv c k i → A k i < z) (hN : kNew c A z p g h) :
    kW (k_addQ c p g) R m (kAq A (kq c) z) (xm_up (xm_up h.1 (A 0 3) (.inr (4, 10, updV (fun j => va_rf (if j < kq c then some (A 3 j) else none)) (nI (kq c)).toNatClampNeg (.ref z)))) (A 0 0) (.inl (4, [.ref (A 0 1), .ref (A 0 2), .ref (A 0 3), .int (nI (kj c)), .int (nI (kr c)), .int (nI (kq c) + 1), .int (kc c), .int (kl c)])), h.2) := by
  have v00 : kv c 0 0 := show 0 < 4 by decide
  have v03 : kv c 0 3 := show 3 < 4 by decide
  obtain ⟨n1, n2, n3, n4⟩ := hN
  have h12 := hW.2.2.1
  have hA6 : ∀ i, kAq A (kq c) z 6 i = A 6 i := kAq_o A _ _ (by decide)
  have far : ∀ q, z ≤ q → xm_up (xm_up h.1 (A 0 3) (.inr (4, 10, updV (fun j => va_rf (if j < kq c then some (A 3 j) else none)) (nI (kq c)).toNatClampNeg (.ref z)))) (A 0 0) (.inl (4, [.ref (A 0 1), .ref (A 0 2), .ref (A 0 3), .int (nI (kj c)), .int (nI (kr c)), .int (nI (kq c) + 1), .int (kc c), .int (kl c)])) q = h.1 q := fun q hq => by
    rw [xm_up_ne _ _ (fun e => absurd (ha 0 0 v00) (by omega)), xm_up_ne _ _ (fun e => absurd (ha 0 3 v03) (by omega))]
  have old : ∀ k i, kv c k i → ¬ (k = 0 ∧ i = 0) → ¬ (k = 0 ∧ i = 3) → xm_up (xm_up h.1 (A 0 3) (.inr (4, 10, updV (fun j => va_rf (if j < kq c then some (A 3 j) else none)) (nI (kq c)).toNatClampNeg (.ref z)))) (A 0 0) (.inl (4, [.ref (A 0 1), .ref (A 0 2), .ref (A 0 3), .int (nI (kj c)), .int (nI (kr c)), .int (nI (kq c) + 1), .int (kc c), .int (kl c)])) (A k i) = some (kd c R m A k i) := fun k i hk m0 m1 => by
    rw [xm_up_ne _ _ (fun z => m0 (hW.2.1 k i 0 0 hk v00 z)), xm_up_ne _ _ (fun z => m1 (hW.2.1 k i 0 3 hk v03 z))]
    exact (hW.1 k i hk).1
  -- old or new
  have inv : ∀ k i, kv (k_addQ c p g) k i → kv c k i ∨ (k = 3 ∧ i = kq c) ∨ (k = 4 ∧ i = kq c) ∨ (k = 5 ∧ ∃ j, j < kj c ∧ i = 12 * kq c + j) := fun k i hk => by
    match k, hk with
    | 0, hk => exact Or.inl hk
    | 1, hk => exact Or.inl hk
    | 2, hk => exact Or.inl hk
    | 3, hk =>
      have hk : i < kq c + 1 := hk
      rcases Nat.lt_or_ge i (kq c) with q | q
      · exact Or.inl q
      · exact Or.inr (Or.inl ⟨rfl, by omega⟩)
    | 4, hk =>
      have hk : i < kq c + 1 := hk
      rcases Nat.lt_or_ge i (kq c) with q | q
      · exact Or.inl q
      · exact Or.inr (Or.inr (Or.inl ⟨rfl, by omega⟩))
    | 5, hk =>
      have hk : i < 12 * (kq c + 1) ∧ i % 12 < kj c := hk
      rcases Nat.lt_or_ge i (12 * kq c) with q | q
      · exact Or.inl ⟨q, hk.2⟩
      · exact Or.inr (Or.inr (Or.inr ⟨rfl, i % 12, hk.2, by omega⟩))
    | 6, hk => exact Or.inl hk
    | k + 7, hk => exact hk.elim
  have up : ∀ k i, kv c k i → kAq A (kq c) z k i = A k i := fun k i hk => by
    match k, hk with
    | 0, _ => exact kAq_o A _ _ (by decide) i
    | 1, _ => exact kAq_o A _ _ (by decide) i
    | 2, _ => exact kAq_o A _ _ (by decide) i
    | 3, hk => exact kAq_3 A (Nat.ne_of_lt (show i < kq c from hk))
    | 4, hk => exact kAq_4 A (Nat.ne_of_lt (show i < kq c from hk))
    | 5, hk => exact kAq_5 A (show i < 12 * kq c ∧ _ from hk).1
    | 6, _ => exact kAq_o A _ _ (by decide) i
    | k + 7, hk => exact hk.elim
  have zero : ∀ j, j < kj c → ∀ f, 9 ≤ f → f ≤ 16 → kF c f (12 * kq c + j) = 0 := fun j hj f f1 f2 => hI.2.2.2.2.1 _ (fun q => by have := q.1; omega) f f1 f2
  have noR : ∀ j, R (12 * kq c + j) = none := fun j => by
    cases e : R (12 * kq c + j) with
    | none => rfl
    | some u => have := (hI.2.1 _ u e).1.1; omega
  refine ⟨fun k i hk => ?_, fun k i k' i' hk hk' e => ?_, ⟨hW.2.2.1, hW.2.2.2.1, Nat.succ_le_of_lt h10⟩⟩
  · rcases inv k i hk with hk | ⟨rfl, rfl⟩ | ⟨rfl, rfl⟩ | ⟨rfl, j, hj, rfl⟩
    · rw [up k i hk]
      refine ⟨?_, (hW.1 k i hk).2⟩
      by_cases m0 : k = 0 ∧ i = 0
      · obtain ⟨rfl, rfl⟩ := m0
        show xm_up _ (A 0 0) _ (A 0 0) = _
        rw [xm_up_self]
        simp only [kd, kd0, kAq_o A (kq c) z (show (0 : Nat) ≠ 3 ∧ (0 : Nat) ≠ 4 ∧ (0 : Nat) ≠ 5 by decide), nI_1]
        rfl
      · by_cases m1 : k = 0 ∧ i = 3
        · obtain ⟨rfl, rfl⟩ := m1
          show xm_up _ (A 0 0) _ (A 0 3) = _
          rw [xm_up_ne _ _ (fun z => absurd (hW.2.1 0 3 0 0 v03 v00 z).2 (by decide)), xm_up_self]
          simp only [kd, kd0]
          rw [nI_clamp (by omega)]
          congr 4
          funext j
          show updV _ (kq c) _ j = va_rf (if j < kq c + 1 then some (kAq A (kq c) z 3 j) else none)
          unfold updV
          by_cases e : j = kq c
          · rw [if_pos e, e, if_pos (Nat.lt_succ_self _), kAq_3n]; rfl
          · rw [if_neg e, kAq_3 A e]
            by_cases q : j < kq c
            · dsimp only; rw [if_pos q, if_pos (by omega)]
            · dsimp only; rw [if_neg q, if_neg (by omega)]
        · refine (old k i hk m0 m1).trans ?_
          congr 1
          match k, hk with
          | 0, hk =>
            match i, m0, m1 with
            | 0, m0, _ => exact absurd ⟨rfl, rfl⟩ m0
            | 1, _, _ => simp only [kd, kd0, kAq_f A (kq c) z (show (1 : Nat) ≠ 3 ∧ (1 : Nat) ≠ 4 ∧ (1 : Nat) ≠ 5 by decide)]; rfl
            | 2, _, _ => simp only [kd, kd0, kAq_f A (kq c) z (show (2 : Nat) ≠ 3 ∧ (2 : Nat) ≠ 4 ∧ (2 : Nat) ≠ 5 by decide)]; rfl
            | 3, _, m1 => exact absurd ⟨rfl, rfl⟩ m1
            | i + 4, _, _ => exact absurd (show i + 4 < 4 from hk) (by omega)
          | 1, hk => simp only [kd, kd1, k_addQ_n c p g (show (0 : Nat) ≠ 6 ∧ (0 : Nat) ≠ 7 by decide), k_addQ_n c p g (show (1 : Nat) ≠ 6 ∧ (1 : Nat) ≠ 7 by decide), k_addQ_n c p g (show (2 : Nat) ≠ 6 ∧ (2 : Nat) ≠ 7 by decide), k_addQ_n c p g (show (3 : Nat) ≠ 6 ∧ (3 : Nat) ≠ 7 by decide), k_addQ_n c p g (show (4 : Nat) ≠ 6 ∧ (4 : Nat) ≠ 7 by decide), k_addQ_n c p g (show (5 : Nat) ≠ 6 ∧ (5 : Nat) ≠ 7 by decide)]
          | 2, hk =>
            have e5 : (khx (kF c 19 i)).map (kAq A (kq c) z 5) = (khx (kF c 19 i)).map (A 5) := by
              rcases hI.2.2.1 i hk with q | ⟨x, q⟩
              · rw [q]; rfl
              · obtain ⟨q1, q2, q3⟩ := hI.2.1 x i q
                have := hI.x120 q1
                rw [q3, khx_nI (by omega)]
                show some _ = some _
                rw [kAq_5 A q1.1]
            simp only [kd, kd2, k_addQ_n c p g (show (17 : Nat) ≠ 6 ∧ (17 : Nat) ≠ 7 by decide), k_addQ_n c p g (show (18 : Nat) ≠ 6 ∧ (18 : Nat) ≠ 7 by decide), k_addQ_n c p g (show (19 : Nat) ≠ 6 ∧ (19 : Nat) ≠ 7 by decide), e5]
          | 3, hk =>
            have hk : i < kq c := hk
            simp only [kd, kd3, k_addQ_o c p g (show i ≠ kq c by omega), kAq_4 A (show i ≠ kq c by omega)]
          | 4, hk =>
            have hk : i < kq c := hk
            have ef : (fun j => if j < 12 then Value.ref (A 5 (12 * i + j)) else .null) = fun j => if j < 12 then Value.ref (kAq A (kq c) z 5 (12 * i + j)) else .null := by
              funext j
              by_cases q : j < 12
              · rw [if_pos q, if_pos q, kAq_5 A (by omega)]
              · rw [if_neg q, if_neg q]
            simp only [kd, kd4, ef]
            rfl
          | 5, hk =>
            have hk : i < 12 * kq c ∧ i % 12 < kj c := hk
            simp only [kd, kd5, k_addQ_n c p g (show (9 : Nat) ≠ 6 ∧ (9 : Nat) ≠ 7 by decide), k_addQ_n c p g (show (10 : Nat) ≠ 6 ∧ (10 : Nat) ≠ 7 by decide), k_addQ_n c p g (show (11 : Nat) ≠ 6 ∧ (11 : Nat) ≠ 7 by decide), k_addQ_n c p g (show (12 : Nat) ≠ 6 ∧ (12 : Nat) ≠ 7 by decide), k_addQ_n c p g (show (13 : Nat) ≠ 6 ∧ (13 : Nat) ≠ 7 by decide), k_addQ_n c p g (show (14 : Nat) ≠ 6 ∧ (14 : Nat) ≠ 7 by decide), k_addQ_n c p g (show (15 : Nat) ≠ 6 ∧ (15 : Nat) ≠ 7 by decide), k_addQ_n c p g (show (16 : Nat) ≠ 6 ∧ (16 : Nat) ≠ 7 by decide), kAq_3 A (show i / 12 ≠ kq c by omega), kAq_o A (kq c) z (show (1 : Nat) ≠ 3 ∧ (1 : Nat) ≠ 4 ∧ (1 : Nat) ≠ 5 by decide), kAq_f A (kq c) z (show (2 : Nat) ≠ 3 ∧ (2 : Nat) ≠ 4 ∧ (2 : Nat) ≠ 5 by decide)]
          | 6, hk => exact (kd6_A hA6 i).symm
          | k + 7, hk => exact hk.elim
    · rw [kAq_3n]
      refine ⟨(far z (Nat.le_refl _)).trans ?_, by show z < h.2.1; omega⟩
      rw [n1]
      simp only [kd, kd3, k_addQ_F, kAq_4n]
      simp [(hI.2.2.2.2.2.1 (kq c)).1 (Nat.le_refl _)]
    · rw [kAq_4n]
      refine ⟨(far (z + 1) (by omega)).trans ?_, by show z + 1 < h.2.1; omega⟩
      rw [n2]
      simp only [kd, kd4, kAq_5n]
      rfl
    · rw [kAq_5n]
      refine ⟨(far (z + 2 + j) (by omega)).trans ?_, by show z + 2 + j < h.2.1; omega⟩
      rw [n3 j hj]
      have hd : (12 * kq c + j) / 12 = kq c := by omega
      have hm : (12 * kq c + j) % 12 = j := by omega
      simp only [kd, kd5, hd, hm, kAq_3n, noR j, k_addQ_n c p g (show (9 : Nat) ≠ 6 ∧ (9 : Nat) ≠ 7 by decide), k_addQ_n c p g (show (10 : Nat) ≠ 6 ∧ (10 : Nat) ≠ 7 by decide), k_addQ_n c p g (show (11 : Nat) ≠ 6 ∧ (11 : Nat) ≠ 7 by decide), k_addQ_n c p g (show (12 : Nat) ≠ 6 ∧ (12 : Nat) ≠ 7 by decide), k_addQ_n c p g (show (13 : Nat) ≠ 6 ∧ (13 : Nat) ≠ 7 by decide), k_addQ_n c p g (show (14 : Nat) ≠ 6 ∧ (14 : Nat) ≠ 7 by decide), k_addQ_n c p g (show (15 : Nat) ≠ 6 ∧ (15 : Nat) ≠ 7 by decide), k_addQ_n c p g (show (16 : Nat) ≠ 6 ∧ (16 : Nat) ≠ 7 by decide), kAq_o A (kq c) z (show (1 : Nat) ≠ 3 ∧ (1 : Nat) ≠ 4 ∧ (1 : Nat) ≠ 5 by decide), zero j hj 9 (by omega) (by omega), zero j hj 10 (by omega) (by omega), zero j hj 11 (by omega) (by omega), zero j hj 12 (by omega) (by omega), zero j hj 13 (by omega) (by omega), zero j hj 14 (by omega) (by omega), zero j hj 15 (by omega) (by omega), zero j hj 16 (by omega) (by omega)]
      rfl
  · have lo : ∀ k i, kv c k i → kAq A (kq c) z k i < z := fun k i hk => by rw [up k i hk]; exact ha k i hk
    rcases inv k i hk with hk | ⟨rfl, rfl⟩ | ⟨rfl, rfl⟩ | ⟨rfl, j, hj, rfl⟩ <;> rcases inv k' i' hk' with hk' | ⟨rfl, rfl⟩ | ⟨rfl, rfl⟩ | ⟨rfl, j', hj', rfl⟩ <;>
      (try simp only [kAq_3n, kAq_4n, kAq_5n] at e) <;>
      first
        | exact ⟨rfl, rfl⟩
        | (rw [up k i hk, up k' i' hk'] at e; exact hW.2.1 k i k' i' hk hk' e)
        | (have q := lo k i hk; exact absurd e (by omega))
        | (have q := lo k' i' hk'; exact absurd e (by omega))
        | exact absurd e (by omega)
        | exact ⟨rfl, by omega⟩
end
section
/-! a run is triggered: what holds -/
theorem kI.addQ {s : kS} {R : Nat → Option Nat} (h : kI s R) {p g : Int32} (h10 : kq s < 10) : kI (k_addQ s p g) R := by
  obtain ⟨a1, a2, a3, a4, a5, a6, a7, a8, a9⟩ := h
  refine ⟨⟨a1.1, a1.2.1, Nat.succ_le_of_lt h10⟩, fun x u e => ?_, fun u hu => ?_, fun x hx => ?_, fun x hx f f1 f2 => ?_, fun r => ⟨fun hr => ?_, fun hr => ?_⟩, fun x => ?_, fun j k q1 q2 => ?_, fun x => ?_⟩
  · obtain ⟨b1, b2, b3⟩ := a2 x u e
    refine ⟨⟨?_, b1.2⟩, b2, ?_⟩
    · show x < 12 * (kq s + 1)
      have := b1.1
      omega
    · rw [k_addQ_n _ _ _ (by decide)]; exact b3
  · rw [k_addQ_n _ _ _ (by decide)]; exact a3 u hu
  · rw [k_addQ_n _ _ _ (by decide)]
    by_cases q : k_ok s x
    · exact a4 x q
    · rw [a5 x q 9 (by omega) (by omega)]
      refine ⟨fun z => absurd z (by decide), fun z => ?_⟩
      cases e : R x with
      | none => exact absurd e z
      | some u => exact absurd (a2 x u e).1 q
  · rw [k_addQ_n _ _ _ (by omega)]
    refine a5 x (fun q => hx ⟨?_, q.2⟩) f f1 f2
    show x < 12 * (kq s + 1)
    have := q.1
    omega
  · have hr : kq s + 1 ≤ r := hr
    rw [k_addQ_n _ _ _ (by decide)]; exact (a6 r).1 (by omega)
  · rw [k_addQ_n _ _ _ (by decide)]; exact (a6 r).2 hr
  · rw [k_addQ_n _ _ _ (by decide), k_addQ_n _ _ _ (by decide)]; exact a7 x
  · rw [k_addQ_n _ _ _ (by decide)]; exact a8 j k q1 q2
  · rw [k_addQ_n _ _ _ (by decide)]; exact a9 x
theorem kI8.addQ {s : kS} {R : Nat → Option Nat} (h : kI8 s) (hI : kI s R) (p g : Int32) : kI8 (k_addQ s p g) := fun x hx h0 => by
  have hx1 : x < 12 * (kq s + 1) ∧ x % 12 < kj s := hx
  rw [k_addQ_n _ _ _ (by decide)] at h0
  rw [k_addQ_n _ _ _ (by decide), k_addQ_n _ _ _ (by decide)]
  by_cases q : x < 12 * kq s
  · exact h x ⟨q, hx1.2⟩ h0
  · rw [show x / 12 = kq s by omega, (hI.2.2.2.2.2.1 (kq s)).1 (Nat.le_refl _)]
    exact fun z => z.1 rfl
def k_grp1 (s : kS) (g : Int32) (r : Nat) : kS := if kF s 7 r = g ∧ ¬ k_over s r then k_stop s r else s
def k_grpN (s : kS) (g : Int32) : Nat → kS
  | 0 => s
  | r + 1 => k_grp1 (k_grpN s g r) g r
theorem k_stop_1 (s : kS) (r : Nat) : (k_stop s r).1 = s.1 := k_stopN_1 s r (kj s)
theorem k_grp1_1 (s : kS) (g : Int32) (r : Nat) : (k_grp1 s g r).1 = s.1 := by
  unfold k_grp1
  split
  · exact k_stop_1 s r
  · rfl
theorem k_grpN_1 (s : kS) (g : Int32) : ∀ n, (k_grpN s g n).1 = s.1
  | 0 => rfl
  | n + 1 => (k_grp1_1 _ _ _).trans (k_grpN_1 s g n)
def k_grp (s : kS) (g : Int32) : kS := if g = -1 then s else k_grpN s g (kq s)
theorem k_grp_1 (s : kS) (g : Int32) : (k_grp s g).1 = s.1 := by
  unfold k_grp
  split
  · rfl
  · exact k_grpN_1 s g _
def o_trig (s : kS) (p g : Int32) : kS × Int32 := if kq s = 10 ∨ ¬ k_in p 8 ∨ g < -1 ∨ 4 ≤ g then (s, -1) else (k_settle (k_addQ (k_grp s g) p g), nI (kq s))
theorem kW.frameZ {c : kS} {R : Nat → Option Nat} {m : kS} {A : kA} {h h2 : xm_H} {z : Nat} (hW : kW c R m A h) (hlo : ∀ k i, kv c k i → A k i < z) (hq : ∀ q, q < z → h2.1 q = h.1 q) (hz : h.2.1 ≤ h2.2.1) : kW c R m A h2 :=
  ⟨fun k i hk => ⟨(hq _ (hlo k i hk)).trans (hW.1 k i hk).1, Nat.lt_of_lt_of_le (hW.1 k i hk).2 hz⟩, hW.2⟩
end
section
/-! a run is triggered: the class's methods -/
theorem r_Tsk_init {g : xm_G} {h : xm_H} {a : Nat} {v0 v1 v2 v3 v4 v5 v6 v7 v8 v9 v10 v11 : Value} {b j : Nat} {n : Int32} (ha : h.1 a = some (.inl (3, [v0, v1, v2, v3, v4, v5, v6, v7, v8, v9, v10, v11])))  : xm_S g 1 m_Tsk_init (xm_entry m_Tsk_init [.ref a, .ref b, .int n, .ref j]) h (xq_v fun h' => h' = (xm_up h.1 a (.inl (3, [.ref b, .int n, .ref j, .int 0, .null, .int 0, .int 0, .int 0, .int 0, .int 0, .int 0, .int 0])), h.2)) := by
  show xm_S g 1 m_Tsk_init (0, [some (.ref a), some (.ref b), some (.int n), some (.ref j)], []) h _
  refine xr_aload_n d_Tsk_init_0 rfl ?_
  refine xr_objInit d_Tsk_init_1 xo_3_3 (Nat.le_of_ble_eq_true rfl) ?_
  refine xr_aload_n d_Tsk_init_4 rfl ?_
  refine xr_iconst (v := 0) d_Tsk_init_5 rfl ?_
  refine xr_putf d_Tsk_init_6 xf_3_9 ha rfl rfl rfl ?_
  refine xr_aload_n d_Tsk_init_9 rfl ?_
  refine xr_null d_Tsk_init_10 ?_
  refine xr_putf d_Tsk_init_11 xf_3_15 (xm_up_self _ _ _) rfl rfl rfl ?_
  refine xr_aload_n d_Tsk_init_14 rfl ?_
  refine xr_iconst (v := 0) d_Tsk_init_15 rfl ?_
  refine xr_putf d_Tsk_init_16 xf_3_19 (xm_up_self _ _ _) rfl rfl rfl ?_
  refine xr_aload_n d_Tsk_init_19 rfl ?_
  refine xr_iconst (v := 0) d_Tsk_init_20 rfl ?_
  refine xr_putf d_Tsk_init_21 xf_3_22 (xm_up_self _ _ _) rfl rfl rfl ?_
  refine xr_aload_n d_Tsk_init_24 rfl ?_
  refine xr_iconst (v := 0) d_Tsk_init_25 rfl ?_
  refine xr_putf d_Tsk_init_26 xf_3_25 (xm_up_self _ _ _) rfl rfl rfl ?_
  refine xr_aload_n d_Tsk_init_29 rfl ?_
  refine xr_iconst (v := 0) d_Tsk_init_30 rfl ?_
  refine xr_putf d_Tsk_init_31 xf_3_28 (xm_up_self _ _ _) rfl rfl rfl ?_
  refine xr_aload_n d_Tsk_init_34 rfl ?_
  refine xr_iconst (v := 0) d_Tsk_init_35 rfl ?_
  refine xr_putf d_Tsk_init_36 xf_3_31 (xm_up_self _ _ _) rfl rfl rfl ?_
  refine xr_aload_n d_Tsk_init_39 rfl ?_
  refine xr_iconst (v := 0) d_Tsk_init_40 rfl ?_
  refine xr_putf d_Tsk_init_41 xf_3_34 (xm_up_self _ _ _) rfl rfl rfl ?_
  refine xr_aload_n d_Tsk_init_44 rfl ?_
  refine xr_iconst (v := 0) d_Tsk_init_45 rfl ?_
  refine xr_putf d_Tsk_init_46 xf_3_37 (xm_up_self _ _ _) rfl rfl rfl ?_
  refine xr_aload_n d_Tsk_init_49 rfl ?_
  refine xr_aload_n d_Tsk_init_50 rfl ?_
  refine xr_putF d_Tsk_init_51 xf_3_41 (xm_up_self _ _ _) rfl rfl rfl rfl rfl ?_
  refine xr_aload_n d_Tsk_init_54 rfl ?_
  refine xr_iload_n d_Tsk_init_55 rfl ?_
  refine xr_putF d_Tsk_init_56 xf_3_45 (xm_up_self _ _ _) rfl rfl rfl rfl rfl ?_
  refine xr_aload_n d_Tsk_init_59 rfl ?_
  refine xr_aload_n d_Tsk_init_60 rfl ?_
  refine xr_putF d_Tsk_init_61 xf_3_48 (xm_up_self _ _ _) rfl rfl rfl rfl rfl ?_
  refine xr_return d_Tsk_init_64 rfl rfl ?_
  refine ⟨rfl, ?_⟩
  simp only [xm_up_up]
  rfl
theorem r_Run_init {g : xm_G} {h : xm_H} {a N : Nat} {v0 v1 v2 v3 v4 : Value} {n p q : Int32} (ha : h.1 a = some (.inl (1, [v0, v1, v2, v3, v4]))) (hal : a < h.2.1) (hN : N < 13) : xm_S g 1 m_Run_init (xm_entry m_Run_init [.ref a, .int n, .int p, .int q, .int (nI N)]) h (xq_v fun h' => h'.1 a = some (.inl (1, [.int n, .int p, .int q, .ref h.2.1, .int 0])) ∧ h'.1 h.2.1 = some (.inr (5, N, fun _ => .null)) ∧ (∀ x, x ≠ a → x ≠ h.2.1 → h'.1 x = h.1 x) ∧ h'.2 = (h.2.1 + 1, h.2.2 + N)) := by
  show xm_S g 1 m_Run_init (0, [some (.ref a), some (.int n), some (.int p), some (.int q), some (.int (nI N))], []) h _
  refine xr_aload_n d_Run_init_0 rfl ?_
  refine xr_objInit d_Run_init_1 xo_1_3 (Nat.le_of_ble_eq_true rfl) ?_
  refine xr_aload_n d_Run_init_4 rfl ?_
  refine xr_iconst (v := 0) d_Run_init_5 rfl ?_
  refine xr_putf d_Run_init_6 xf_1_9 ha rfl rfl rfl ?_
  refine xr_aload_n d_Run_init_9 rfl ?_
  refine xr_iload_n d_Run_init_10 rfl ?_
  refine xr_putF d_Run_init_11 xf_1_15 (xm_up_self _ _ _) rfl rfl rfl rfl rfl ?_
  refine xr_aload_n d_Run_init_14 rfl ?_
  refine xr_iload_n d_Run_init_15 rfl ?_
  refine xr_putF d_Run_init_16 xf_1_19 (xm_up_self _ _ _) rfl rfl rfl rfl rfl ?_
  refine xr_aload_n d_Run_init_19 rfl ?_
  refine xr_iload_n d_Run_init_20 rfl ?_
  refine xr_putF d_Run_init_21 xf_1_22 (xm_up_self _ _ _) rfl rfl rfl rfl rfl ?_
  refine xr_aload_n d_Run_init_24 rfl ?_
  refine xr_iload d_Run_init_25 rfl ?_
  refine xr_anew (t := 5) (N := N) d_Run_init_27 xa_1_25 (nI_pos (by omega)) (nI_clamp (by omega)) (by omega) ?_
  refine xr_putF d_Run_init_30 xf_1_27 (show xm_up _ h.2.1 _ a = _ from (xm_up_ne _ _ (Nat.ne_of_lt hal)).trans (xm_up_self _ _ _)) rfl rfl rfl rfl rfl ?_
  refine xr_return d_Run_init_33 rfl rfl ?_
  refine ⟨rfl, xm_up_self _ _ _, ?_, fun x n1 n2 => ?_, rfl⟩
  · show xm_up _ a _ h.2.1 = _
    rw [xm_up_ne _ _ (Nat.ne_of_gt hal)]
    exact xm_up_self _ _ _
  · show xm_up _ a _ x = _
    rw [xm_up_ne _ _ n1]
    show xm_up _ h.2.1 _ x = _
    rw [xm_up_ne _ _ n2]
    simp only [xm_up_up]
    exact xm_up_ne _ _ n1
set_option maxHeartbeats 400000 in
theorem l_newRun {g : xm_G} {c m : kS} {R : Nat → Option Nat} {A : kA} {z b : Nat} {v p q : Int32} (hlo : ∀ k i, kv c k i → A k i < z)  : ∀ (n : Nat) (j : Nat) (h : xm_H), kW c R m A h → h.1 z = some (.inl (1, [.int v, .int p, .int q, .ref (z + 1), .int 0])) → h.1 (z + 1) = some (.inr (5, kj c, fun i => if i < j then Value.ref (z + 2 + i) else .null)) → (∀ i, i < j → h.1 (z + 2 + i) = some (.inl (3, [.ref z, .int (nI i), .ref (A 1 i), .int 0, .null, .int 0, .int 0, .int 0, .int 0, .int 0, .int 0, .int 0]))) → h.2 = (z + 2 + j, b + 12 * j) → j ≤ kj c → kj c < j + n → xm_S g 2 m_S_newRun (19, [some (.ref (A 0 0)), some (.int v), some (.int p), some (.int q), some (.ref z), some (.int (nI j))], []) h (xq_r fun o h' => o = some z ∧ h'.1 z = some (.inl (1, [.int v, .int p, .int q, .ref (z + 1), .int 0])) ∧ h'.1 (z + 1) = some (.inr (5, kj c, fun i => if i < 12 then .ref (z + 2 + i) else .null)) ∧ (∀ i, i < kj c → h'.1 (z + 2 + i) = some (.inl (3, [.ref z, .int (nI i), .ref (A 1 i), .int 0, .null, .int 0, .int 0, .int 0, .int 0, .int 0, .int 0, .int 0]))) ∧ kW c R m A h' ∧ h'.2 = (z + 2 + kj c, b + 12 * kj c)) := by
  intro n
  induction n with
  | zero => intros; omega
  | succ n ih =>
    intro j h hW hr1 hr2 hr3 hz hj hn
    have hb1 := hW.2.2.1
    have hsz : h.2.1 = z + 2 + j := congrArg Prod.fst hz
    refine xr_iload d_S_newRun_19 rfl ?_
    refine xr_aload_n d_S_newRun_21 rfl ?_
    refine xr_getf d_S_newRun_22 xf_4_27 hW.this rfl ?_
    refine xr_icmp_ge (tgt := 60) d_S_newRun_25 rfl (fun c25 => ?_) (fun c25 => ?_)
    · have hje : j = kj c := by
        rcases Nat.lt_or_ge j (kj c) with q | q
        · exact absurd c25 (nI_ge q (by omega))
        · omega
      refine xr_ext (f' := fun i => if i < 12 then .ref (z + 2 + i) else .null) hr2 (fun i hi => by rw [if_pos (by omega), if_pos (by omega)]) ?_
      refine xr_aload d_S_newRun_60 rfl ?_
      refine xr_areturn (v := some z) d_S_newRun_62 rfl rfl ?_
      subst hje
      refine ⟨_, rfl, rfl, ?_, xm_up_self _ _ _, fun i hi => ?_, ?_, hz⟩
      · show xm_up h.1 (z + 1) _ z = _
        rw [xm_up_ne _ _ (by omega)]; exact hr1
      · show xm_up h.1 (z + 1) _ (z + 2 + i) = _
        rw [xm_up_ne _ _ (by omega)]; exact hr3 i hi
      · refine hW.frameZ hlo (fun q hq => ?_) (Nat.le_refl _)
        exact xm_up_ne _ _ (by omega)
    · have hjl : j < kj c := by
        rcases Nat.lt_or_ge j (kj c) with q | q
        · exact q
        · exact absurd (nI_le q (by omega)) c25
      refine xr_aload d_S_newRun_28 rfl ?_
      refine xr_getf d_S_newRun_30 xf_4_171 hr1 rfl ?_
      refine xr_iload d_S_newRun_33 rfl ?_
      refine xr_new (fs := [.null, .int 0, .null, .int 0, .null, .int 0, .int 0, .int 0, .int 0, .int 0, .int 0, .int 0]) (N := 12) d_S_newRun_35 xc_4_75 rfl rfl ?_
      refine xr_dup d_S_newRun_38 rfl ?_
      refine xr_aload d_S_newRun_39 rfl ?_
      refine xr_iload d_S_newRun_41 rfl ?_
      refine xr_aload_n d_S_newRun_43 rfl ?_
      refine xr_getf d_S_newRun_44 xf_4_11 (show xm_up h.1 h.2.1 _ (A 0 0) = _ from (xm_up_ne _ _ (Nat.ne_of_lt (hW.1 0 0 (show 0 < 4 by decide)).2)).trans hW.this) rfl ?_
      refine xr_iload d_S_newRun_47 rfl ?_
      have hW0 := hW
      have hW : kW c R m A (xm_up h.1 h.2.1 (.inl (3, [.null, .int 0, .null, .int 0, .null, .int 0, .int 0, .int 0, .int 0, .int 0, .int 0, .int 0])), h.2.1 + 1, h.2.2 + 12) := hW0.frame (fun q hq => xm_up_ne _ _ (Nat.ne_of_lt hq)) (Nat.le_succ _)
      refine kr_jobs (j := j) hW d_S_newRun_49 rfl hjl ?_
      refine xr_I3v d_S_newRun_50 xi_4_178 rfl rfl rfl rfl (Nat.le_of_ble_eq_true rfl) (by decide) (r_Tsk_init (xm_up_self _ _ _)) (fun h1 h9 => ?_)
      have hk : ∀ q, q ≠ h.2.1 → h1.1 q = h.1 q := fun q hq => by rw [h9]; show xm_up (xm_up h.1 h.2.1 _) h.2.1 _ q = _; rw [xm_up_ne _ _ hq, xm_up_ne _ _ hq]
      have ho : h1.1 h.2.1 = some (.inl (3, [.ref z, .int (nI j), .ref (A 1 j), .int 0, .null, .int 0, .int 0, .int 0, .int 0, .int 0, .int 0, .int 0])) := by rw [h9]; exact xm_up_self _ _ _
      have hz1 : h1.2 = (h.2.1 + 1, h.2.2 + 12) := by rw [h9]
      clear h9
      refine xr_aast (ci := 3) (Cn := "JobStates$Task") d_S_newRun_53 ((hk (z + 1) (by omega)).trans hr2) rfl rfl ho (vp_in_nI hjl (by omega)) ?_
      refine xr_iinc1 d_S_newRun_54 rfl ?_
      refine xr_goto (tgt := 19) d_S_newRun_57 rfl ?_
      rw [nI_1]
      refine ih (j + 1) _ ?_ ?_ ?_ ?_ ?_ (by omega) (by omega)
      · refine hW0.frameZ hlo (fun q hq => ?_) (by show h.2.1 ≤ h1.2.1; rw [hz1]; exact Nat.le_succ _)
        show xm_up h1.1 (z + 1) _ q = _
        rw [xm_up_ne _ _ (by omega), hk q (by omega)]
      · show xm_up h1.1 (z + 1) _ z = _
        rw [xm_up_ne _ _ (by omega), hk z (by omega)]; exact hr1
      · show xm_up h1.1 (z + 1) _ (z + 1) = _
        rw [xm_up_self, nI_clamp (by omega), hsz]
        congr 4
        funext i
        unfold updV
        dsimp only
        by_cases e : i = j
        · rw [if_pos e, e, if_pos (by omega)]
        · rw [if_neg e]
          by_cases q : i < j
          · rw [if_pos q, if_pos (by omega)]
          · rw [if_neg q, if_neg (by omega)]
      · intro i hi
        show xm_up h1.1 (z + 1) _ (z + 2 + i) = _
        rw [xm_up_ne _ _ (by omega)]
        by_cases e : i = j
        · rw [e, ← hsz]; exact ho
        · rw [hk _ (by omega)]; exact hr3 i (by omega)
      · show h1.2 = _
        rw [hz1, hsz, show h.2.2 = b + 12 * j from congrArg Prod.snd hz]
        congr 1
theorem s_newRun {g : xm_G} {h : xm_H} {c m : kS} {R : Nat → Option Nat} {A : kA} {v p q : Int32} (hW : kW c R m A h) : xm_S g 2 m_S_newRun (xm_entry m_S_newRun [.ref (A 0 0), .int v, .int p, .int q]) h (xq_r fun o h' => o = some h.2.1 ∧ h'.1 h.2.1 = some (.inl (1, [.int v, .int p, .int q, .ref (h.2.1 + 1), .int 0])) ∧ h'.1 (h.2.1 + 1) = some (.inr (5, kj c, fun i => if i < 12 then .ref (h.2.1 + 2 + i) else .null)) ∧ (∀ i, i < kj c → h'.1 (h.2.1 + 2 + i) = some (.inl (3, [.ref h.2.1, .int (nI i), .ref (A 1 i), .int 0, .null, .int 0, .int 0, .int 0, .int 0, .int 0, .int 0, .int 0]))) ∧ kW c R m A h' ∧ h'.2 = (h.2.1 + 2 + kj c, h.2.2 + 5 + kj c + 12 * kj c)) := by
  show xm_S g 2 m_S_newRun (0, [some (.ref (A 0 0)), some (.int v), some (.int p), some (.int q), none, none], []) h _
  have hb1 := hW.2.2.1
  have hlo : ∀ k i, kv c k i → A k i < h.2.1 := fun k i hk => (hW.1 k i hk).2
  refine xr_new (fs := [.int 0, .int 0, .int 0, .null, .int 0]) (N := 5) d_S_newRun_0 xc_4_21 rfl rfl ?_
  refine xr_dup d_S_newRun_3 rfl ?_
  refine xr_iload_n d_S_newRun_4 rfl ?_
  refine xr_iload_n d_S_newRun_5 rfl ?_
  refine xr_iload_n d_S_newRun_6 rfl ?_
  refine xr_aload_n d_S_newRun_7 rfl ?_
  refine xr_getf d_S_newRun_8 xf_4_27 (show xm_up h.1 h.2.1 _ (A 0 0) = _ from (xm_up_ne _ _ (Nat.ne_of_lt (hlo 0 0 (show 0 < 4 by decide)))).trans hW.this) rfl ?_
  refine xr_I4v d_S_newRun_11 xi_4_175 rfl rfl rfl rfl rfl (Nat.le_of_ble_eq_true rfl) (by decide) (r_Run_init (xm_up_self _ _ _) (Nat.lt_succ_self _) (by omega)) (fun h1 h9 => ?_)
  obtain ⟨f1, f2, f3, f4⟩ := h9
  have f1 : h1.1 h.2.1 = some (.inl (1, [.int v, .int p, .int q, .ref (h.2.1 + 1), .int 0])) := f1
  have f2 : h1.1 (h.2.1 + 1) = some (.inr (5, kj c, fun _ => .null)) := f2
  have hk : ∀ x, x < h.2.1 → h1.1 x = h.1 x := fun x hx => (f3 x (by omega) (show x ≠ h.2.1 + 1 by omega)).trans (xm_up_ne _ _ (by omega))
  refine xr_astore d_S_newRun_14 (Nat.le_of_ble_eq_true rfl) ?_
  refine xr_iconst (v := 0) d_S_newRun_16 rfl ?_
  refine xr_istore d_S_newRun_17 (Nat.le_of_ble_eq_true rfl) ?_
  refine l_newRun (b := h.2.2 + 5 + kj c) hlo (kj c + 1) 0 h1 (hW.frame hk ?_) f1 ?_ (fun i hi => absurd hi (Nat.not_lt_zero _)) ?_ (by omega) (by omega)
  · rw [f4]; show h.2.1 ≤ h.2.1 + 1 + 1; omega
  · rw [f2]; congr 4
  · rw [f4]; rfl
theorem l_cancelGroup {g : xm_G} {h0 : xm_H} {s m : kS} {A : kA} {q : Int32}  : ∀ (n : Nat) (r : Nat) (R : Nat → Option Nat) (h : xm_H), kW (k_grpN s q r) R m A h → kI (k_grpN s q r) R → kI8 (k_grpN s q r) → h.2 = h0.2 → r ≤ kq s → kq s < r + n → xm_S g 2 m_S_cancelGroup (2, [some (.ref (A 0 0)), some (.int q), some (.int (nI r))], []) h (xq_v fun h' => ∃ R', kW (k_grpN s q (kq s)) R' m A h' ∧ kI (k_grpN s q (kq s)) R' ∧ kI8 (k_grpN s q (kq s)) ∧ h'.2 = h0.2) := by
  intro n
  induction n with
  | zero => intros; omega
  | succ n ih =>
    intro r R h hW hI h8 he hr1 hn
    have e1 := k_grpN_1 s q r
    have hk : k_grpN s q (r + 1) = k_grp1 (k_grpN s q r) q r := rfl
    generalize hC : k_grpN s q r = C at *
    have hkq : kq C = kq s := congrArg (fun z => z.2.2) e1
    rw [← hkq] at hr1 hn
    have hb1 := hW.2.2.1
    have hb3 := hW.2.2.2.2
    refine xr_iload_n d_S_cancelGroup_2 rfl ?_
    refine xr_aload_n d_S_cancelGroup_3 rfl ?_
    refine xr_getf d_S_cancelGroup_4 xf_4_34 hW.this rfl ?_
    refine xr_icmp_ge (tgt := 50) d_S_cancelGroup_7 rfl (fun c7 => ?_) (fun c7 => ?_)
    · have hre : r = kq C := by
        rcases Nat.lt_or_ge r (kq C) with z | z
        · exact absurd c7 (nI_ge z (by omega))
        · omega
      refine xr_return d_S_cancelGroup_50 rfl rfl ?_
      refine ⟨rfl, R, ?_, ?_, ?_, he⟩
      · rw [← hkq, ← hre, hC]; exact hW
      · rw [← hkq, ← hre, hC]; exact hI
      · rw [← hkq, ← hre, hC]; exact h8
    · have hr : r < kq C := by
        rcases Nat.lt_or_ge r (kq C) with z | z
        · exact z
        · exact absurd (nI_le z (by omega)) c7
      refine xr_aload_n d_S_cancelGroup_10 rfl ?_
      refine xr_getf d_S_cancelGroup_11 xf_4_23 hW.this rfl ?_
      refine xr_iload_n d_S_cancelGroup_14 rfl ?_
      refine kr_runs (r := r) hW d_S_cancelGroup_15 rfl hr ?_
      refine xr_getf d_S_cancelGroup_16 xf_4_181 (hW.run hr) rfl ?_
      refine xr_iload_n d_S_cancelGroup_19 rfl ?_
      refine xr_icmp_ne (tgt := 44) d_S_cancelGroup_20 rfl (fun c20 => ?_) (fun c20 => ?_)
      · have hnx : k_grpN s q (r + 1) = C := hk.trans (if_neg (fun z => c20 z.1))
        refine xr_iinc1 d_S_cancelGroup_44 rfl ?_
        refine xr_goto (tgt := 2) d_S_cancelGroup_47 rfl ?_
        rw [nI_1]
        exact ih (r + 1) _ _ (by rw [hnx]; exact hW) (by rw [hnx]; exact hI) (by rw [hnx]; exact h8) he (by omega) (by omega)
      · refine xr_aload_n d_S_cancelGroup_23 rfl ?_
        refine xr_getf d_S_cancelGroup_24 xf_4_23 hW.this rfl ?_
        refine xr_iload_n d_S_cancelGroup_27 rfl ?_
        refine kr_runs (r := r) hW d_S_cancelGroup_28 rfl hr ?_
        refine xr_V0i d_S_cancelGroup_29 xv_4_140 (hW.run hr) rfl (Nat.le_of_ble_eq_true rfl) (by decide) (s_isOver hW hr) (fun v h1 h9 => ?_)
        obtain ⟨rfl, e9⟩ := h9
        have e9 := e9.symm
        subst e9
        refine xr_if_ne (tgt := 44) d_S_cancelGroup_32 rfl (fun c32 => ?_) (fun c32 => ?_)
        · have hnx : k_grpN s q (r + 1) = C := hk.trans (if_neg (fun z => z.2 (kbi_n0 c32)))
          refine xr_iinc1 d_S_cancelGroup_44 rfl ?_
          refine xr_goto (tgt := 2) d_S_cancelGroup_47 rfl ?_
          rw [nI_1]
          exact ih (r + 1) _ _ (by rw [hnx]; exact hW) (by rw [hnx]; exact hI) (by rw [hnx]; exact h8) he (by omega) (by omega)
        · have hnx : k_grpN s q (r + 1) = k_stop C r := hk.trans (if_pos ⟨c20, kbi_0.mp c32⟩)
          refine xr_aload_n d_S_cancelGroup_35 rfl ?_
          refine xr_getf d_S_cancelGroup_36 xf_4_23 hW.this rfl ?_
          refine xr_iload_n d_S_cancelGroup_39 rfl ?_
          refine kr_runs (r := r) hW d_S_cancelGroup_40 rfl hr ?_
          refine xr_V0v d_S_cancelGroup_41 xv_4_143 (hW.run hr) rfl (Nat.le_of_ble_eq_true rfl) (by decide) (s_cancelAll hW hr hI) (fun h1 h9 => ?_)
          have h8 := h8.stop hb1 r
          obtain ⟨R', hW, hI, he1⟩ := h9
          have he := he1.trans he
          refine xr_iinc1 d_S_cancelGroup_44 rfl ?_
          refine xr_goto (tgt := 2) d_S_cancelGroup_47 rfl ?_
          rw [nI_1]
          exact ih (r + 1) _ _ (by rw [hnx]; exact hW) (by rw [hnx]; exact hI) (by rw [hnx]; exact h8) he (by omega) (by omega)
theorem s_cancelGroup {g : xm_G} {h : xm_H} {s m : kS} {R : Nat → Option Nat} {A : kA} {q : Int32} (hW : kW s R m A h) (hI : kI s R) (h8 : kI8 s) : xm_S g 2 m_S_cancelGroup (xm_entry m_S_cancelGroup [.ref (A 0 0), .int q]) h (xq_v fun h' => ∃ R', kW (k_grpN s q (kq s)) R' m A h' ∧ kI (k_grpN s q (kq s)) R' ∧ kI8 (k_grpN s q (kq s)) ∧ h'.2 = h.2) := by
  show xm_S g 2 m_S_cancelGroup (0, [some (.ref (A 0 0)), some (.int q), none], []) h _
  refine xr_iconst (v := 0) d_S_cancelGroup_0 rfl ?_
  refine xr_istore_n d_S_cancelGroup_1 (Nat.le_of_ble_eq_true rfl) ?_
  exact l_cancelGroup (h0 := h) (kq s + 1) 0 R h hW hI h8 rfl (by omega) (by omega)
set_option maxHeartbeats 200000 in
theorem p_trigger {g : xm_G} {h : xm_H} {c m : kS} {R : Nat → Option Nat} {A : kA} (hW : kW c R m A h) {p q : Int32} (hI : kI c R) (h8 : kI8 c) : xm_S g 5 m_S_trigger (xm_entry m_S_trigger [.ref (A 0 0), .int p, .int q]) h (xq_i fun v h' => v = (o_trig c p q).2 ∧ kQ (o_trig c p q).1 m A h h') := by
  show xm_S g 5 m_S_trigger (0, [some (.ref (A 0 0)), some (.int p), some (.int q), none], []) h _
  have hb3 := hW.2.2.2.2
  refine xr_aload_n d_S_trigger_0 rfl ?_
  refine xr_getf d_S_trigger_1 xf_4_34 hW.this rfl ?_
  refine xr_bipush (v := 10) d_S_trigger_4 rfl ?_
  refine xr_icmp_ge (tgt := 16) d_S_trigger_6 rfl (fun c6 => ?_) (fun c6 => ?_)
  · have w : o_trig c p q = (c, -1) := if_pos (Or.inl (by
      rcases Nat.lt_or_ge (kq c) 10 with z | z
      · exact absurd c6 (nI_ge (b := 10) z (by decide))
      · omega))
    refine xr_iconst (v := -1) d_S_trigger_16 rfl ?_
    refine xr_ireturn d_S_trigger_17 rfl rfl rfl ?_
    rw [w]
    exact ⟨_, rfl, rfl, kQ.of hW hI h8 rfl⟩
  · have h10 : kq c < 10 := by
      rcases Nat.lt_or_ge (kq c) 10 with z | z
      · exact z
      · exact absurd (nI_le (a := 10) z (by omega)) c6
    refine xr_iload_n d_S_trigger_9 rfl ?_
    refine xr_S1i d_S_trigger_10 xs_4_56 rfl rfl (Nat.le_of_ble_eq_true rfl) (by decide) s_isPerson (fun v h1 h9 => ?_)
    obtain ⟨rfl, e9⟩ := h9
    have e9 := e9.symm
    subst e9
    refine xr_if_ne (tgt := 18) d_S_trigger_13 rfl (fun c13 => ?_) (fun c13 => ?_)
    · refine xr_iload_n d_S_trigger_18 rfl ?_
      refine xr_iconst (v := -1) d_S_trigger_19 rfl ?_
      refine xr_icmp_eq (tgt := 34) d_S_trigger_20 rfl (fun c20 => ?_) (fun c20 => ?_)
      · have hg : ¬ (q < -1 ∨ 4 ≤ q) := by rw [c20]; decide
        have w : o_trig c p q = (k_settle (k_addQ (k_grp c q) p q), nI (kq c)) := if_neg (by
          rintro (z | z | z | z)
          · omega
          · exact z (kbi_n0 c13)
          · exact hg (Or.inl z)
          · exact hg (Or.inr z))
        have K44 : ∀ (R : Nat → Option Nat) (h1 : xm_H), kW (k_grp c q) R m A h1 → kI (k_grp c q) R → kI8 (k_grp c q) → h1.2 = h.2 → xm_S g 5 m_S_trigger (44, [some (.ref (A 0 0)), some (.int p), some (.int q), none], []) h1 (xq_i fun v h' => v = (o_trig c p q).2 ∧ kQ (o_trig c p q).1 m A h h') := by
          intro R h1 hW hI h8 he1
          have e1 := k_grp_1 c q
          have hkq : kq (k_grp c q) = kq c := congrArg (fun z => z.2.2) e1
          rw [← hkq] at w h10
          rw [w]
          generalize k_grp c q = C at *
          have hb1 := hW.2.2.1
          refine xr_aload_n d_S_trigger_44 rfl ?_
          refine xr_getf d_S_trigger_45 xf_4_34 hW.this rfl ?_
          refine xr_istore_n d_S_trigger_48 (Nat.le_of_ble_eq_true rfl) ?_
          refine xr_aload_n d_S_trigger_49 rfl ?_
          refine xr_getf d_S_trigger_50 xf_4_23 hW.this rfl ?_
          refine xr_iload_n d_S_trigger_53 rfl ?_
          refine xr_aload_n d_S_trigger_54 rfl ?_
          refine xr_iload_n d_S_trigger_55 rfl ?_
          refine xr_iload_n d_S_trigger_56 rfl ?_
          refine xr_iload_n d_S_trigger_57 rfl ?_
          refine xr_V3r d_S_trigger_58 xv_4_63 hW.this rfl rfl rfl rfl (Nat.le_of_ble_eq_true rfl) (by decide) (s_newRun hW) (fun o h2 h9 => ?_)
          obtain ⟨rfl, f1, f2, f3, hW2, hz⟩ := h9
          have hz1 : h2.2.1 = h1.2.1 + 2 + kj C := congrArg Prod.fst hz
          have hz2 : h2.2.2 = h1.2.2 + 5 + kj C + 12 * kj C := congrArg Prod.snd hz
          have n03 : A 0 0 ≠ A 0 3 := fun z => absurd (hW.2.1 0 0 0 3 (show 0 < 4 by decide) (show 3 < 4 by decide) z).2 (by decide)
          have hlo : ∀ k i, kv C k i → A k i < h1.2.1 := fun k i hk => (hW.1 k i hk).2
          refine xr_aast (v := h1.2.1) (ci := 1) (Cn := "JobStates$Run") d_S_trigger_61 hW2.arun rfl rfl f1 (vp_in_nI h10 (by decide)) ?_
          refine xr_aload_n d_S_trigger_62 rfl ?_
          refine xr_dup d_S_trigger_63 rfl ?_
          refine xr_getf d_S_trigger_64 xf_4_34 (show xm_up h2.1 (A 0 3) _ (A 0 0) = _ from (xm_up_ne _ _ n03).trans hW2.this) rfl ?_
          refine xr_iconst (v := 1) d_S_trigger_67 rfl ?_
          refine xr_iadd d_S_trigger_68 ?_
          refine xr_putf d_S_trigger_69 xf_4_34 (show xm_up h2.1 (A 0 3) _ (A 0 0) = _ from (xm_up_ne _ _ n03).trans hW2.this) rfl rfl rfl ?_
          have hW3 := hW2.addQ (p := p) (g := q) hI h10 hlo ⟨f1, f2, f3, by rw [hz1]; exact Nat.le_refl _⟩
          have hA0 : kAq A (kq C) h1.2.1 0 0 = A 0 0 := kAq_o A _ _ (by decide) 0
          have hA6 : kAq A (kq C) h1.2.1 6 0 = A 6 0 := kAq_o A _ _ (by decide) 0
          rw [← hA0]
          refine xr_aload_n d_S_trigger_72 rfl ?_
          refine xr_V0v d_S_trigger_73 xv_4_67 hW3.this rfl (Nat.le_of_ble_eq_true rfl) (by decide) (s_settle hW3 (hI.addQ h10) (h8.addQ hI p q)) (fun h3 h9 => ?_)
          obtain ⟨hW4, hI4, h84, he4⟩ := h9
          refine xr_iload_n d_S_trigger_76 rfl ?_
          refine xr_ireturn d_S_trigger_77 rfl rfl rfl ?_
          have hQ : kQ (k_settle (k_addQ C p q)) m A h h3 := by
            refine ⟨R, kAq A (kq C) h1.2.1, hW4, hI4, h84, hA0, hA6, ?_, ?_⟩
            · rw [he4]; show h2.2.1 ≤ _; rw [hz1, he1]; omega
            · rw [he4]; show h2.2.2 ≤ _; rw [hz2, he1]; omega
          refine ⟨_, rfl, ?_, ?_⟩
          · dsimp only
          · dsimp only; exact hQ
        refine xr_iload_n d_S_trigger_34 rfl ?_
        refine xr_iconst (v := -1) d_S_trigger_35 rfl ?_
        refine xr_icmp_eq (tgt := 44) d_S_trigger_36 rfl (fun c36 => ?_) (fun c36 => ?_)
        · exact K44 R h (by unfold k_grp; rw [if_pos c36]; exact hW) (by unfold k_grp; rw [if_pos c36]; exact hI) (by unfold k_grp; rw [if_pos c36]; exact h8) rfl
        · have hgr : k_grp c q = k_grpN c q (kq c) := if_neg c36
          refine xr_aload_n d_S_trigger_39 rfl ?_
          refine xr_iload_n d_S_trigger_40 rfl ?_
          refine xr_V1v d_S_trigger_41 xv_4_59 hW.this rfl rfl (Nat.le_of_ble_eq_true rfl) (by decide) (s_cancelGroup hW hI h8) (fun h1 h9 => ?_)
          obtain ⟨R', hW1, hI1, h81, he1⟩ := h9
          rw [← hgr] at hW1 hI1 h81
          exact K44 R' h1 hW1 hI1 h81 he1
      · refine xr_iload_n d_S_trigger_23 rfl ?_
        refine xr_if_lt (tgt := 32) d_S_trigger_24 rfl (fun c24 => ?_) (fun c24 => ?_)
        · have w : o_trig c p q = (c, -1) := if_pos (Or.inr (Or.inr (Or.inl (by simp only [Int32.lt_iff_toInt_lt, ti_eq, ti_m1, ti_0] at *; omega))))
          refine xr_iconst (v := -1) d_S_trigger_32 rfl ?_
          refine xr_ireturn d_S_trigger_33 rfl rfl rfl ?_
          rw [w]
          exact ⟨_, rfl, rfl, kQ.of hW hI h8 rfl⟩
        · refine xr_iload_n d_S_trigger_27 rfl ?_
          refine xr_iconst (v := 4) d_S_trigger_28 rfl ?_
          refine xr_icmp_lt (tgt := 34) d_S_trigger_29 rfl (fun c29 => ?_) (fun c29 => ?_)
          · have hg : ¬ (q < -1 ∨ 4 ≤ q) := fun z => z.elim (fun y => c24 (by simp only [Int32.lt_iff_toInt_lt, ti_m1, ti_0] at *; omega)) (fun y => ki_nle.mpr c29 y)
            have w : o_trig c p q = (k_settle (k_addQ (k_grp c q) p q), nI (kq c)) := if_neg (by
              rintro (z | z | z | z)
              · omega
              · exact z (kbi_n0 c13)
              · exact hg (Or.inl z)
              · exact hg (Or.inr z))
            have K44 : ∀ (R : Nat → Option Nat) (h1 : xm_H), kW (k_grp c q) R m A h1 → kI (k_grp c q) R → kI8 (k_grp c q) → h1.2 = h.2 → xm_S g 5 m_S_trigger (44, [some (.ref (A 0 0)), some (.int p), some (.int q), none], []) h1 (xq_i fun v h' => v = (o_trig c p q).2 ∧ kQ (o_trig c p q).1 m A h h') := by
              intro R h1 hW hI h8 he1
              have e1 := k_grp_1 c q
              have hkq : kq (k_grp c q) = kq c := congrArg (fun z => z.2.2) e1
              rw [← hkq] at w h10
              rw [w]
              generalize k_grp c q = C at *
              have hb1 := hW.2.2.1
              refine xr_aload_n d_S_trigger_44 rfl ?_
              refine xr_getf d_S_trigger_45 xf_4_34 hW.this rfl ?_
              refine xr_istore_n d_S_trigger_48 (Nat.le_of_ble_eq_true rfl) ?_
              refine xr_aload_n d_S_trigger_49 rfl ?_
              refine xr_getf d_S_trigger_50 xf_4_23 hW.this rfl ?_
              refine xr_iload_n d_S_trigger_53 rfl ?_
              refine xr_aload_n d_S_trigger_54 rfl ?_
              refine xr_iload_n d_S_trigger_55 rfl ?_
              refine xr_iload_n d_S_trigger_56 rfl ?_
              refine xr_iload_n d_S_trigger_57 rfl ?_
              refine xr_V3r d_S_trigger_58 xv_4_63 hW.this rfl rfl rfl rfl (Nat.le_of_ble_eq_true rfl) (by decide) (s_newRun hW) (fun o h2 h9 => ?_)
              obtain ⟨rfl, f1, f2, f3, hW2, hz⟩ := h9
              have hz1 : h2.2.1 = h1.2.1 + 2 + kj C := congrArg Prod.fst hz
              have hz2 : h2.2.2 = h1.2.2 + 5 + kj C + 12 * kj C := congrArg Prod.snd hz
              have n03 : A 0 0 ≠ A 0 3 := fun z => absurd (hW.2.1 0 0 0 3 (show 0 < 4 by decide) (show 3 < 4 by decide) z).2 (by decide)
              have hlo : ∀ k i, kv C k i → A k i < h1.2.1 := fun k i hk => (hW.1 k i hk).2
              refine xr_aast (v := h1.2.1) (ci := 1) (Cn := "JobStates$Run") d_S_trigger_61 hW2.arun rfl rfl f1 (vp_in_nI h10 (by decide)) ?_
              refine xr_aload_n d_S_trigger_62 rfl ?_
              refine xr_dup d_S_trigger_63 rfl ?_
              refine xr_getf d_S_trigger_64 xf_4_34 (show xm_up h2.1 (A 0 3) _ (A 0 0) = _ from (xm_up_ne _ _ n03).trans hW2.this) rfl ?_
              refine xr_iconst (v := 1) d_S_trigger_67 rfl ?_
              refine xr_iadd d_S_trigger_68 ?_
              refine xr_putf d_S_trigger_69 xf_4_34 (show xm_up h2.1 (A 0 3) _ (A 0 0) = _ from (xm_up_ne _ _ n03).trans hW2.this) rfl rfl rfl ?_
              have hW3 := hW2.addQ (p := p) (g := q) hI h10 hlo ⟨f1, f2, f3, by rw [hz1]; exact Nat.le_refl _⟩
              have hA0 : kAq A (kq C) h1.2.1 0 0 = A 0 0 := kAq_o A _ _ (by decide) 0
              have hA6 : kAq A (kq C) h1.2.1 6 0 = A 6 0 := kAq_o A _ _ (by decide) 0
              rw [← hA0]
              refine xr_aload_n d_S_trigger_72 rfl ?_
              refine xr_V0v d_S_trigger_73 xv_4_67 hW3.this rfl (Nat.le_of_ble_eq_true rfl) (by decide) (s_settle hW3 (hI.addQ h10) (h8.addQ hI p q)) (fun h3 h9 => ?_)
              obtain ⟨hW4, hI4, h84, he4⟩ := h9
              refine xr_iload_n d_S_trigger_76 rfl ?_
              refine xr_ireturn d_S_trigger_77 rfl rfl rfl ?_
              have hQ : kQ (k_settle (k_addQ C p q)) m A h h3 := by
                refine ⟨R, kAq A (kq C) h1.2.1, hW4, hI4, h84, hA0, hA6, ?_, ?_⟩
                · rw [he4]; show h2.2.1 ≤ _; rw [hz1, he1]; omega
                · rw [he4]; show h2.2.2 ≤ _; rw [hz2, he1]; omega
              refine ⟨_, rfl, ?_, ?_⟩
              · dsimp only
              · dsimp only; exact hQ
            refine xr_iload_n d_S_trigger_34 rfl ?_
            refine xr_iconst (v := -1) d_S_trigger_35 rfl ?_
            refine xr_icmp_eq (tgt := 44) d_S_trigger_36 rfl (fun c36 => ?_) (fun c36 => ?_)
            · exact K44 R h (by unfold k_grp; rw [if_pos c36]; exact hW) (by unfold k_grp; rw [if_pos c36]; exact hI) (by unfold k_grp; rw [if_pos c36]; exact h8) rfl
            · have hgr : k_grp c q = k_grpN c q (kq c) := if_neg c36
              refine xr_aload_n d_S_trigger_39 rfl ?_
              refine xr_iload_n d_S_trigger_40 rfl ?_
              refine xr_V1v d_S_trigger_41 xv_4_59 hW.this rfl rfl (Nat.le_of_ble_eq_true rfl) (by decide) (s_cancelGroup hW hI h8) (fun h1 h9 => ?_)
              obtain ⟨R', hW1, hI1, h81, he1⟩ := h9
              rw [← hgr] at hW1 hI1 h81
              exact K44 R' h1 hW1 hI1 h81 he1
          · have w : o_trig c p q = (c, -1) := if_pos (Or.inr (Or.inr (Or.inr (ki_nlt.mp c29))))
            refine xr_iconst (v := -1) d_S_trigger_32 rfl ?_
            refine xr_ireturn d_S_trigger_33 rfl rfl rfl ?_
            rw [w]
            exact ⟨_, rfl, rfl, kQ.of hW hI h8 rfl⟩
    · have w : o_trig c p q = (c, -1) := if_pos (Or.inr (Or.inl (kbi_0.mp c13)))
      refine xr_iconst (v := -1) d_S_trigger_16 rfl ?_
      refine xr_ireturn d_S_trigger_17 rfl rfl rfl ?_
      rw [w]
      exact ⟨_, rfl, rfl, kQ.of hW hI h8 rfl⟩
end
section
/-! a runner takes a task: what a person has running, counted by tasks and by runners; the best task -/
def ksum (f : Nat → Nat) : Nat → Nat
  | 0 => 0
  | n + 1 => ksum f n + f n
theorem ksum_c {f g : Nat → Nat} : ∀ n, (∀ i, i < n → f i = g i) → ksum f n = ksum g n
  | 0, _ => rfl
  | n + 1, h => by
    show ksum f n + f n = ksum g n + g n
    rw [ksum_c n (fun i hi => h i (by omega)), h n (by omega)]
theorem ksum_0 {f : Nat → Nat} : ∀ n, (∀ i, i < n → f i = 0) → ksum f n = 0
  | 0, _ => rfl
  | n + 1, h => by
    show ksum f n + f n = 0
    rw [ksum_0 n (fun i hi => h i (by omega)), h n (by omega)]
theorem ksum_1 {f : Nat → Nat} {i : Nat} : ∀ n, i < n → (∀ j, j < n → j ≠ i → f j = 0) → ksum f n = f i
  | 0, h, _ => absurd h (Nat.not_lt_zero _)
  | n + 1, h, h1 => by
    show ksum f n + f n = f i
    by_cases e : i = n
    · rw [e, ksum_0 n (fun j hj => h1 j (by omega) (by omega))]; omega
    · rw [ksum_1 n (by omega) (fun j hj => h1 j (by omega)), h1 n (by omega) (fun q => e q.symm)]; omega
theorem ksum_add (f g : Nat → Nat) : ∀ n, ksum (fun i => f i + g i) n = ksum f n + ksum g n
  | 0 => rfl
  | n + 1 => by
    show ksum (fun i => f i + g i) n + (f n + g n) = ksum f n + f n + (ksum g n + g n)
    rw [ksum_add f g n]; omega
theorem ksum_swap (f : Nat → Nat → Nat) (m : Nat) : ∀ n, ksum (fun x => ksum (f x) m) n = ksum (fun u => ksum (fun x => f x u) n) m
  | 0 => (ksum_0 m (fun _ _ => rfl)).symm
  | n + 1 => by
    show ksum (fun x => ksum (f x) m) n + ksum (f n) m = ksum (fun u => ksum (fun x => f x u) n + f n u) m
    rw [ksum_swap f m n, ← ksum_add]
theorem ksum_le {f : Nat → Nat} (h : ∀ i, f i ≤ 1) : ∀ n, ksum f n ≤ n
  | 0 => Nat.le_refl _
  | n + 1 => by
    have h1 := ksum_le h n
    have h2 := h n
    show ksum f n + f n ≤ n + 1
    omega
def k_b1 (p : Prop) [Decidable p] : Nat := if p then 1 else 0
theorem k_b1_le {p : Prop} [Decidable p] : k_b1 p ≤ 1 := by unfold k_b1; split <;> omega
def k_busyN (s : kS) (p : Int32) (n : Nat) : Nat := ksum (fun x => k_b1 (kF s 9 x = 2 ∧ kF s 6 (x / 12) = p)) n
def k_busy (s : kS) (p : Int32) : Nat := k_busyN s p (12 * kq s)
def k_runsN (s : kS) (p : Int32) (n : Nat) : Nat := ksum (fun u => k_b1 (¬ kF s 19 u = -1 ∧ kF s 6 (k_n (kF s 19 u) / 12) = p)) n
theorem k_busyN_s (s : kS) (p : Int32) (n : Nat) : k_busyN s p (n + 1) = k_busyN s p n + k_b1 (kF s 9 n = 2 ∧ kF s 6 (n / 12) = p) := rfl
theorem k_runsN_s (s : kS) (p : Int32) (n : Nat) : k_runsN s p (n + 1) = k_runsN s p n + k_b1 (¬ kF s 19 n = -1 ∧ kF s 6 (k_n (kF s 19 n) / 12) = p) := rfl
theorem k_busyN_le (s : kS) (p : Int32) (n : Nat) : k_busyN s p n ≤ n := ksum_le (fun _ => k_b1_le) n
theorem k_runsN_le (s : kS) (p : Int32) (n : Nat) : k_runsN s p n ≤ n := ksum_le (fun _ => k_b1_le) n
theorem k_b1_c {p q : Prop} [Decidable p] [Decidable q] (h : p ↔ q) : k_b1 p = k_b1 q := ki_c h
theorem k_b1_f {p : Prop} [Decidable p] (h : ¬ p) : k_b1 p = 0 := if_neg h
theorem kI.run2 {s : kS} {R : Nat → Option Nat} (h : kI s R) {x : Nat} (h2 : kF s 9 x = 2) : ∃ u, R x = some u := by
  have hk : k_ok s x := Classical.byContradiction (fun q => by
    have e := h.2.2.2.2.1 x q 9 (by omega) (by omega)
    rw [h2] at e
    exact absurd e (by decide))
  cases hR : R x with
  | none => exact absurd hR ((h.2.2.2.1 x hk).mp h2)
  | some u => exact ⟨u, rfl⟩
theorem kI.runR {s : kS} {R : Nat → Option Nat} (h : kI s R) {x u : Nat} (hR : R x = some u) : kF s 9 x = 2 := (h.2.2.2.1 x (h.2.1 x u hR).1).mpr (by rw [hR]; exact fun q => by cases q)
theorem kI.busy {s : kS} {R : Nat → Option Nat} (h : kI s R) (p : Int32) : k_runsN s p (kr s) = k_busy s p := by
  have hb := h.1
  have e1 : k_busy s p = ksum (fun x => ksum (fun u => k_b1 (kF s 19 u = nI x ∧ kF s 6 (x / 12) = p)) (kr s)) (12 * kq s) := by
    refine ksum_c _ (fun x hx => ?_)
    by_cases h2 : kF s 9 x = 2
    · obtain ⟨u, hR⟩ := h.run2 h2
      obtain ⟨-, h3, h4⟩ := h.2.1 x u hR
      rw [ksum_1 (i := u) (kr s) h3 (fun j hj hne => k_b1_f (fun q => by
        have e := h.inj (by omega) hj q.1
        rw [hR] at e
        exact hne (Option.some.inj e).symm))]
      exact k_b1_c ⟨fun q => ⟨h4, q.2⟩, fun q => ⟨h2, q.2⟩⟩
    · rw [k_b1_f (fun q => h2 q.1), ksum_0 (kr s) (fun j hj => k_b1_f (fun q => h2 (h.runR (h.inj (by omega) hj q.1))))]
  have e2 : k_runsN s p (kr s) = ksum (fun u => ksum (fun x => k_b1 (kF s 19 u = nI x ∧ kF s 6 (x / 12) = p)) (12 * kq s)) (kr s) := by
    refine ksum_c _ (fun u hu => ?_)
    rcases h.2.2.1 u hu with q | ⟨x, hR⟩
    · rw [k_b1_f (fun z => z.1 q), ksum_0 (12 * kq s) (fun x hx => k_b1_f (fun z => nI_ne (x := x) (by omega) (z.1.symm.trans q)))]
    · obtain ⟨h3, -, h4⟩ := h.2.1 x u hR
      have hx := h.x120 h3
      rw [ksum_1 (i := x) (12 * kq s) h3.1 (fun y hy hne => k_b1_f (fun z => hne ((nI_eq (by omega) (by omega)).mp (z.1.symm.trans h4))))]
      rw [h4, show k_n (nI x) = x from nI_clamp (by omega)]
      exact k_b1_c ⟨fun q => ⟨rfl, q.2⟩, fun q => ⟨nI_ne (by omega), q.2⟩⟩
  rw [e1, e2, ksum_swap]
/-- who is served first -/
abbrev k_pre (s : kS) (p q : Int32) : Prop := k_busy s p < k_busy s q ∨ (k_busy s p = k_busy s q ∧ p < q)
theorem k_pre_n (s : kS) (p : Int32) : ¬ k_pre s p p := by
  rintro (q | q)
  · omega
  · exact absurd q.2 (ki_nlt.mpr (Int32.le_refl _))
def k_bst (s : kS) (o : Option Nat) (x : Nat) : Option Nat := match o with
  | none => some x
  | some b => if k_pre s (kF s 6 (x / 12)) (kF s 6 (b / 12)) then some x else some b
def k_bestN (s : kS) (u : Nat) : Nat → Option Nat
  | 0 => none
  | x + 1 => if k_fit s u x then k_bst s (k_bestN s u x) x else k_bestN s u x
def k_best (s : kS) (u : Nat) : Option Nat := k_bestN s u (12 * kq s)
theorem k_bst_2 (s : kS) (o : Option Nat) {x y : Nat} (e : x / 12 = y / 12) : k_bst s (k_bst s o y) x = k_bst s o y := by
  cases o with
  | none =>
    show (if k_pre s (kF s 6 (x / 12)) (kF s 6 (y / 12)) then _ else _) = _
    rw [e, if_neg (k_pre_n _ _)]
    rfl
  | some b =>
    by_cases q : k_pre s (kF s 6 (y / 12)) (kF s 6 (b / 12))
    · rw [show k_bst s (some b) y = some y from if_pos q]
      show (if k_pre s (kF s 6 (x / 12)) (kF s 6 (y / 12)) then _ else _) = _
      rw [e, if_neg (k_pre_n _ _)]
    · rw [show k_bst s (some b) y = some b from if_neg q]
      show (if k_pre s (kF s 6 (x / 12)) (kF s 6 (b / 12)) then _ else _) = _
      rw [e, if_neg q]
theorem k_best_no {s : kS} {u y : Nat} : ∀ n, (∀ k, k < n → ¬ k_fit s u (y + k)) → k_bestN s u (y + n) = k_bestN s u y
  | 0, _ => rfl
  | n + 1, h => by
    show (if k_fit s u (y + n) then _ else k_bestN s u (y + n)) = _
    rw [if_neg (h n (by omega)), k_best_no n (fun k hk => h k (by omega))]
theorem k_best_in {s : kS} {u r j : Nat} (hf : k_fit s u (12 * r + j)) (hn : ∀ k, k < j → ¬ k_fit s u (12 * r + k)) : ∀ n, j + 1 + n ≤ 12 → k_bestN s u (12 * r + j + 1 + n) = k_bst s (k_bestN s u (12 * r)) (12 * r + j)
  | 0, _ => by
    show (if k_fit s u (12 * r + j) then k_bst s (k_bestN s u (12 * r + j)) (12 * r + j) else _) = _
    rw [if_pos hf, k_best_no j hn]
  | n + 1, h => by
    show (if k_fit s u (12 * r + j + 1 + n) then k_bst s (k_bestN s u (12 * r + j + 1 + n)) (12 * r + j + 1 + n) else k_bestN s u (12 * r + j + 1 + n)) = _
    rw [k_best_in hf hn n (by omega)]
    by_cases q : k_fit s u (12 * r + j + 1 + n)
    · rw [if_pos q, k_bst_2 s _ (by omega)]
    · rw [if_neg q]
theorem k_best_sp {s : kS} {u : Nat} : ∀ n b, k_bestN s u n = some b → b < n ∧ k_fit s u b
  | 0, b, h => by cases h
  | n + 1, b, h => by
    have h : (if k_fit s u n then k_bst s (k_bestN s u n) n else k_bestN s u n) = some b := h
    by_cases q : k_fit s u n
    · rw [if_pos q] at h
      cases ho : k_bestN s u n with
      | none =>
        rw [ho] at h
        have e := Option.some.inj (show some n = some b from h)
        rw [← e]; exact ⟨by omega, q⟩
      | some a =>
        rw [ho] at h
        have h : (if k_pre s (kF s 6 (n / 12)) (kF s 6 (a / 12)) then some n else some a) = some b := h
        split at h
        · have e := Option.some.inj h
          rw [← e]; exact ⟨by omega, q⟩
        · have e := Option.some.inj h
          obtain ⟨h1, h2⟩ := k_best_sp n a ho
          rw [← e]; exact ⟨by omega, h2⟩
    · rw [if_neg q] at h
      obtain ⟨h1, h2⟩ := k_best_sp n b h
      exact ⟨by omega, h2⟩
/-- the places behind a run's jobs fit nobody -/
theorem kI.nofit {s : kS} {R : Nat → Option Nat} (h : kI s R) {u x : Nat} (hx : ¬ x % 12 < kj s) : ¬ k_fit s u x := fun q => by
  have e := h.2.2.2.2.1 x (fun z => hx z.2) 9 (by omega) (by omega)
  have q1 := q.1
  rw [e] at q1
  exact absurd q1 (by decide)
theorem kI.okfit {s : kS} {R : Nat → Option Nat} (h : kI s R) {u x : Nat} (hf : k_fit s u x) : k_ok s x := Classical.byContradiction (fun z => by
  have e := h.2.2.2.2.1 x z 9 (by omega) (by omega)
  have q1 := hf.1
  rw [e] at q1
  exact absurd q1 (by decide))
theorem kI.bestR {s : kS} {R : Nat → Option Nat} (h : kI s R) {u r : Nat} (hn : ∀ k, k < kj s → ¬ k_fit s u (12 * r + k)) : k_bestN s u (12 * (r + 1)) = k_bestN s u (12 * r) := by
  rw [show 12 * (r + 1) = 12 * r + 12 by omega]
  refine k_best_no 12 (fun k hk => ?_)
  rcases Nat.lt_or_ge k (kj s) with q | q
  · exact hn k q
  · exact h.nofit (by omega)
theorem k_bestS {s : kS} {u r j : Nat} (hj : j < 12) (hf : k_fit s u (12 * r + j)) (hn : ∀ k, k < j → ¬ k_fit s u (12 * r + k)) : k_bestN s u (12 * (r + 1)) = k_bst s (k_bestN s u (12 * r)) (12 * r + j) := by
  rw [← k_best_in hf hn (11 - j) (by omega), show 12 * r + j + 1 + (11 - j) = 12 * (r + 1) by omega]
/-- a task is begun -/
def k_start (s : kS) (u x : Nat) : kS := kw (kw (kw (kw (kw s 19 u (nI x)) 18 u (kc s)) 9 x 2) 10 x (kc s)) 11 x (kF s 11 x + 1)
theorem k_start_F (s : kS) (u x f i : Nat) : kF (k_start s u x) f i = if f = 11 ∧ i = x then kF s 11 x + 1 else if f = 10 ∧ i = x then kc s else if f = 9 ∧ i = x then 2 else if f = 18 ∧ i = u then kc s else if f = 19 ∧ i = u then nI x else kF s f i := rfl
theorem k_start_c (s : kS) (u x : Nat) : kw (kw (kw (kw (kw s 9 x 2) 10 x (kc s)) 11 x (kF s 11 x + 1)) 19 u (nI x)) 18 u (kc s) = k_start s u x := by
  refine kS_ext rfl rfl (fun f i => ?_)
  rw [k_start_F]
  simp only [kw_F]
  by_cases a : f = 18
  · subst a; simp
  · by_cases b : f = 19
    · subst b; simp
    · simp [a, b]
def o_take (s : kS) (a : Int32) : kS × Int32 := if k_in a (kr s) ∧ kF s 19 (k_n a) = -1 then (match k_best s (k_n a) with
  | none => (s, -1)
  | some x => (k_start s (k_n a) x, nI x)) else (s, -1)
theorem o_take_N {s : kS} {u : Nat} (hu : u < kr s) (hk : kr s ≤ 6) (h19 : kF s 19 u = -1) (hb : k_best s u = none) : o_take s (nI u) = (s, -1) := by
  unfold o_take
  rw [show k_n (nI u) = u from nI_clamp (by omega), if_pos ⟨k_in_of hu (by omega), h19⟩, hb]
theorem o_take_S {s : kS} {u x : Nat} (hu : u < kr s) (hk : kr s ≤ 6) (h19 : kF s 19 u = -1) (hb : k_best s u = some x) : o_take s (nI u) = (k_start s u x, nI x) := by
  unfold o_take
  rw [show k_n (nI u) = u from nI_clamp (by omega), if_pos ⟨k_in_of hu (by omega), h19⟩, hb]
theorem kI.start {s : kS} {R : Nat → Option Nat} (h : kI s R) {u x : Nat} (hu : u < kr s) (hx : k_ok s x) (h1 : kF s 9 x = 1) (h19 : kF s 19 u = -1) : kI (k_start s u x) (up1 R x (some u)) := by
  have hxx := h.x120 hx
  have hn : R x = none := by
    cases hR : R x with
    | none => rfl
    | some v => exact absurd ((h.runR hR).symm.trans h1) (by decide)
  have h4 : ¬ kF s 9 x = 4 := fun e => by rw [h1] at e; exact absurd e (by decide)
  have g19 : ∀ v, kF (k_start s u x) 19 v = if v = u then nI x else kF s 19 v := fun v => by rw [k_start_F]; simp
  have g9 : ∀ y, kF (k_start s u x) 9 y = if y = x then 2 else kF s 9 y := fun y => by rw [k_start_F]; simp
  refine h.step rfl (fun y v e => ?_) (fun v hv => ?_) (fun y hy => ?_) (fun y hy f f1 f2 => ?_) (fun r _ => ?_) (fun y => ?_) (fun j => ?_) (fun y => ?_)
  · rw [g19]
    by_cases q : y = x
    · rw [q, up1_s] at e
      rw [q, if_pos (Option.some.inj e).symm, ← Option.some.inj e]
      exact ⟨hx, hu, rfl⟩
    · rw [up1_n _ _ q] at e
      obtain ⟨h5, h6, h7⟩ := h.2.1 y v e
      have h8 := h.x120 h5
      rw [if_neg (fun z => nI_ne (x := y) (by omega) (by rw [← h7, z, h19]))]
      exact ⟨h5, h6, h7⟩
  · rw [g19]
    by_cases q : v = u
    · exact Or.inr ⟨x, by rw [up1_s, q]⟩
    · rw [if_neg q]
      rcases h.2.2.1 v hv with z | ⟨y, z⟩
      · exact Or.inl z
      · exact Or.inr ⟨y, by rw [up1_n _ _ (fun w => by rw [w, hn] at z; cases z)]; exact z⟩
  · rw [g9]
    by_cases q : y = x
    · rw [if_pos q, q, up1_s]
      exact ⟨fun _ => Option.some_ne_none u, fun _ => rfl⟩
    · rw [if_neg q, up1_n _ _ q]; exact h.2.2.2.1 y hy
  · have q : y ≠ x := fun z => hy (by rw [z]; exact hx)
    rw [k_start_F, if_neg (fun z => q z.2), if_neg (fun z => q z.2), if_neg (fun z => q z.2), if_neg (by omega), if_neg (by omega)]
  · rw [k_start_F, if_neg (by omega), if_neg (by omega), if_neg (by omega), if_neg (by omega), if_neg (by omega)]
  · have e14 : kF (k_start s u x) 14 y = kF s 14 y := by rw [k_start_F, if_neg (by omega), if_neg (by omega), if_neg (by omega), if_neg (by omega), if_neg (by omega)]
    rw [e14, g9]
    by_cases q : y = x
    · rw [q]
      rcases k_14a h h4 with z | z
      · exact Or.inl z
      · exact Or.inr (Or.inl z)
    · rw [if_neg q]; exact h.2.2.2.2.2.2.1 y
  · rw [k_start_F, if_neg (by omega), if_neg (by omega), if_neg (by omega), if_neg (by omega), if_neg (by omega)]
  · rw [k_start_F, if_neg (by omega), if_neg (by omega), if_neg (by omega), if_neg (by omega), if_neg (by omega)]; exact h.2.2.2.2.2.2.2.2 y
theorem kI8.start {s : kS} (h : kI8 s) (u x : Nat) : kI8 (k_start s u x) := by
  refine h.keep rfl (fun r => ?_) (fun j => ?_) (fun y h0 => ?_)
  · rw [k_start_F, if_neg (by omega), if_neg (by omega), if_neg (by omega), if_neg (by omega), if_neg (by omega)]
  · rw [k_start_F, if_neg (by omega), if_neg (by omega), if_neg (by omega), if_neg (by omega), if_neg (by omega)]
  · rw [k_start_F, if_neg (by omega), if_neg (by omega)] at h0
    split at h0
    · exact absurd h0 (by decide)
    · rw [if_neg (by omega), if_neg (by omega)] at h0; exact h0
end
section
/-! time goes on: what becomes of a task that runs, by tasks and by runners -/
abbrev k_lat (s : kS) (u : Nat) : Prop := kl s < kc s - kF s 18 u
abbrev k_lim (s : kS) (x : Nat) : Prop := 0 < kF s 1 (x % 12) ∧ kF s 1 (x % 12) ≤ kc s - kF s 10 x
def k_pass (s : kS) (x : Nat) : kS := if kF s 9 x = 2 then (if k_lat s (k_n (k_rof s x)) then k_lose s x else if k_lim s x then k_fail s x else s) else s
def k_passN (s : kS) : Nat → kS
  | 0 => s
  | x + 1 => k_pass (k_passN s x) x
def kck (s : kS) (v : Int32) : kS := (s.1, (v, kl s), kF s)
def k_tick1 (s : kS) : kS := k_passN (kck s (kc s + 1)) (12 * kq s)
def k_tickN (s : kS) : Nat → kS
  | 0 => s
  | n + 1 => k_tick1 (k_tickN s n)
def o_tick (s : kS) (a : Int32) : kS × Int32 := if a < 0 ∨ 1000 < a then (s, -1) else (k_settle (k_tickN s (k_n a)), kc (k_settle (k_tickN s (k_n a))))
/-- by runners -/
def k_ch1 (s : kS) (u : Nat) : kS := if kF s 19 u = -1 then s else if k_lat s u then k_lose s (k_n (kF s 19 u)) else if k_lim s (k_n (kF s 19 u)) then k_fail s (k_n (kF s 19 u)) else s
def k_chN (s : kS) : Nat → kS
  | 0 => s
  | u + 1 => k_ch1 (k_chN s u) u
theorem k_pass_1 (s : kS) (x : Nat) : (k_pass s x).1 = s.1 := by
  unfold k_pass
  split
  · split
    · rfl
    · split <;> rfl
  · rfl
theorem k_pass_2 (s : kS) (x : Nat) : (k_pass s x).2.1 = s.2.1 := by
  unfold k_pass
  split
  · split
    · rfl
    · split <;> rfl
  · rfl
theorem k_passN_1 (s : kS) : ∀ n, (k_passN s n).1 = s.1
  | 0 => rfl
  | n + 1 => (k_pass_1 _ _).trans (k_passN_1 s n)
theorem k_passN_2 (s : kS) : ∀ n, (k_passN s n).2.1 = s.2.1
  | 0 => rfl
  | n + 1 => (k_pass_2 _ _).trans (k_passN_2 s n)
theorem k_ch1_1 (s : kS) (u : Nat) : (k_ch1 s u).1 = s.1 := by
  unfold k_ch1
  split
  · rfl
  · split
    · rfl
    · split <;> rfl
theorem k_chN_1 (s : kS) : ∀ n, (k_chN s n).1 = s.1
  | 0 => rfl
  | n + 1 => (k_ch1_1 _ _).trans (k_chN_1 s n)
theorem k_tickN_1 (s : kS) : ∀ n, (k_tickN s n).1 = s.1
  | 0 => rfl
  | n + 1 => (k_passN_1 _ _).trans (k_tickN_1 s n)
theorem k_tickN_c (s : kS) : ∀ n, kc (k_tickN s n) = kc s + nI n
  | 0 => (Int32.add_zero _).symm
  | n + 1 => by
    have e : kc (k_tickN s (n + 1)) = kc (k_tickN s n) + 1 := congrArg (fun z => z.1) (k_passN_2 (kck (k_tickN s n) (kc (k_tickN s n) + 1)) (12 * kq (k_tickN s n)))
    rw [e, k_tickN_c s n, Int32.add_assoc, nI_1]
theorem kI.pass {s : kS} {R : Nat → Option Nat} (h : kI s R) (x : Nat) : ∃ R', kI (k_pass s x) R' := by
  unfold k_pass
  by_cases h2 : kF s 9 x = 2
  · obtain ⟨u, hR⟩ := h.run2 h2
    have hx := (h.2.1 x u hR).1
    rw [if_pos h2]
    split
    · exact ⟨_, h.lose hx h2⟩
    · split
      · exact ⟨_, h.fail hx h2⟩
      · exact ⟨_, h⟩
  · rw [if_neg h2]; exact ⟨_, h⟩
/-- what happens to a task, as a number: 0 nothing, 1 it is lost, 2 it fails -/
def k_act (s : kS) (x : Nat) : Nat := if kF s 9 x = 2 then (if k_lat s (k_n (k_rof s x)) then 1 else if k_lim s x then 2 else 0) else 0
/-- these things happen -/
def k_PA (s : kS) (a : Nat → Nat) : kS := (s.1, s.2.1, fun f i =>
  if f = 19 then (if i < kr s ∧ ¬ kF s 19 i = -1 ∧ ¬ a (k_n (kF s 19 i)) = 0 then -1 else kF s 19 i)
  else if a i = 1 then (if f = 9 then (if 1 < kF s 14 i + 1 then 4 else 1) else if f = 14 then kF s 14 i + 1 else if f = 13 then kF s 13 i + 1 else kF s f i)
  else if a i = 2 then (if f = 9 then (if kF s 2 (i % 12) < kF s 12 i + 1 then 4 else 1) else if f = 12 then kF s 12 i + 1 else kF s f i)
  else kF s f i)
theorem k_PA_19 (s : kS) (a : Nat → Nat) (i : Nat) : kF (k_PA s a) 19 i = if i < kr s ∧ ¬ kF s 19 i = -1 ∧ ¬ a (k_n (kF s 19 i)) = 0 then -1 else kF s 19 i := rfl
theorem k_PA_F (s : kS) (a : Nat → Nat) {f : Nat} (i : Nat) (h : f ≠ 19) : kF (k_PA s a) f i = if a i = 1 then (if f = 9 then (if 1 < kF s 14 i + 1 then 4 else 1) else if f = 14 then kF s 14 i + 1 else if f = 13 then kF s 13 i + 1 else kF s f i)
  else if a i = 2 then (if f = 9 then (if kF s 2 (i % 12) < kF s 12 i + 1 then 4 else 1) else if f = 12 then kF s 12 i + 1 else kF s f i)
  else kF s f i := if_neg h
theorem k_PA_n (s : kS) (a : Nat → Nat) {f : Nat} (i : Nat) (h : f ≠ 19) (h0 : a i = 0) : kF (k_PA s a) f i = kF s f i := by
  rw [k_PA_F s a i h, if_neg (by omega), if_neg (by omega)]
theorem k_PA_o (s : kS) (a : Nat → Nat) {f : Nat} (i : Nat) (h : f ≠ 19 ∧ f ≠ 9 ∧ f ≠ 12 ∧ f ≠ 13 ∧ f ≠ 14) : kF (k_PA s a) f i = kF s f i := by
  rw [k_PA_F s a i h.1]
  split
  · rw [if_neg h.2.1, if_neg h.2.2.2.2, if_neg h.2.2.2.1]
  · split
    · rw [if_neg h.2.1, if_neg h.2.2.1]
    · rfl
theorem k_PA_0 (s : kS) : k_PA s (fun _ => 0) = s := by
  refine kS_ext rfl rfl (fun f i => ?_)
  by_cases h : f = 19
  · rw [h, k_PA_19, if_neg (fun q => q.2.2 rfl)]
  · exact k_PA_n s _ i h rfl
/-- what the runners have are places -/
def k_pl (s : kS) : Prop := ∀ i, i < kr s → kF s 19 i = -1 ∨ ∃ y, y < 120 ∧ kF s 19 i = nI y
theorem kI.pl {s : kS} {R : Nat → Option Nat} (h : kI s R) : k_pl s := fun i hi => by
  rcases h.2.2.1 i hi with q | ⟨x, q⟩
  · exact Or.inl q
  · obtain ⟨h1, -, h2⟩ := h.2.1 x i q
    exact Or.inr ⟨x, h.x120 h1, h2⟩
theorem k_PA_19n {s : kS} {a : Nat → Nat} {i : Nat} (h : kF s 19 i = -1) : kF (k_PA s a) 19 i = -1 := by
  rw [k_PA_19, if_neg (fun z => z.2.1 h), h]
theorem k_PA_19y {s : kS} {a : Nat → Nat} {i y : Nat} (hi : i < kr s) (hy : y < 120) (h : kF s 19 i = nI y) : kF (k_PA s a) 19 i = if a y = 0 then nI y else -1 := by
  rw [k_PA_19, h, show k_n (nI y) = y from nI_clamp (by omega)]
  by_cases z : a y = 0
  · rw [if_pos z, if_neg (fun w => w.2.2 z)]
  · rw [if_neg z, if_pos ⟨hi, nI_ne (by omega), z⟩]
theorem k_PA_free {s : kS} (hp : k_pl s) {a : Nat → Nat} {x v : Nat} (hx : x < 120) (hv : ¬ v = 0) (i : Nat) : (if i < kr s ∧ kF (k_PA s a) 19 i = nI x then -1 else kF (k_PA s a) 19 i) = kF (k_PA s (up1 a x v)) 19 i := by
  by_cases hi : i < kr s
  · rcases hp i hi with q | ⟨y, hy, q⟩
    · rw [k_PA_19n q, k_PA_19n q]
      split <;> rfl
    · rw [k_PA_19y hi hy q, k_PA_19y hi hy q]
      by_cases e : y = x
      · rw [e, up1_s, if_neg hv]
        by_cases z : a x = 0
        · rw [if_pos z, if_pos ⟨hi, rfl⟩]
        · rw [if_neg z]
          split <;> rfl
      · rw [up1_n _ _ e]
        by_cases z : a y = 0
        · rw [if_pos z, if_neg (fun w => e ((nI_eq (by omega) (by omega)).mp w.2))]
        · rw [if_neg z]
          split <;> rfl
  · rw [if_neg (fun z => hi z.1), k_PA_19, k_PA_19, if_neg (fun z => hi z.1), if_neg (fun z => hi z.1)]
theorem k_PA_lose {s : kS} (hp : k_pl s) {a : Nat → Nat} {x : Nat} (hx : x < 120) (h0 : a x = 0) : k_lose (k_PA s a) x = k_PA s (up1 a x 1) := by
  refine kS_ext rfl rfl (fun f i => ?_)
  by_cases h : f = 19
  · rw [h, ← k_PA_free hp hx (by decide)]
    unfold k_lose
    rw [k_free_F]
    simp only [kw_F]
    exact ki_c ⟨fun q => ⟨q.2.1, by simpa using q.2.2⟩, fun q => ⟨trivial, q.1, by simpa using q.2⟩⟩
  · unfold k_lose
    rw [k_free_n _ _ h, k_PA_F _ _ _ h, kw_F, kw_F, kw_F, k_PA_n s a x (by decide) h0, k_PA_n s a x (by decide) h0]
    by_cases e : i = x
    · rw [e, up1_s, if_pos (c := 1 = 1) rfl, k_PA_n s a x h h0]
      by_cases e1 : f = 9
      · rw [if_pos ⟨e1, rfl⟩, if_pos e1]
      · rw [if_neg (fun q => e1 q.1), if_neg e1]
        by_cases e2 : f = 14
        · rw [if_pos ⟨e2, rfl⟩, if_pos e2]
        · rw [if_neg (fun q => e2 q.1), if_neg e2]
          exact ki_c ⟨fun q => q.1, fun q => ⟨q, rfl⟩⟩
    · rw [if_neg (fun q => e q.2), if_neg (fun q => e q.2), if_neg (fun q => e q.2), up1_n _ _ e, k_PA_F _ _ _ h]
theorem k_PA_fail {s : kS} (hp : k_pl s) {a : Nat → Nat} {x : Nat} (hx : x < 120) (h0 : a x = 0) : k_fail (k_PA s a) x = k_PA s (up1 a x 2) := by
  refine kS_ext rfl rfl (fun f i => ?_)
  by_cases h : f = 19
  · rw [h, ← k_PA_free hp hx (by decide)]
    unfold k_fail
    rw [k_free_F]
    simp only [kw_F]
    exact ki_c ⟨fun q => ⟨q.2.1, by simpa using q.2.2⟩, fun q => ⟨trivial, q.1, by simpa using q.2⟩⟩
  · unfold k_fail
    rw [k_free_n _ _ h, k_PA_F _ _ _ h, kw_F, kw_F, k_PA_n s a x (by decide) h0, k_PA_o s a (x % 12) (by decide)]
    by_cases e : i = x
    · rw [e, up1_s, if_neg (c := 2 = 1) (by decide), if_pos (c := 2 = 2) rfl, k_PA_n s a x h h0]
      by_cases e1 : f = 9
      · rw [if_pos ⟨e1, rfl⟩, if_pos e1]
      · rw [if_neg (fun q => e1 q.1), if_neg e1]
        exact ki_c ⟨fun q => q.1, fun q => ⟨q, rfl⟩⟩
    · rw [if_neg (fun q => e q.2), if_neg (fun q => e q.2), up1_n _ _ e, k_PA_F _ _ _ h]
theorem up1_0 {a : Nat → Nat} {x : Nat} (h : a x = 0) : up1 a x 0 = a := by
  funext i
  by_cases e : i = x
  · rw [e, up1_s, h]
  · rw [up1_n _ _ e]
theorem kI.PAu {s : kS} {R : Nat → Option Nat} (h : kI s R) {a : Nat → Nat} {x u : Nat} (hR : R x = some u) (h0 : a x = 0) : kF (k_PA s a) 19 u = nI x := by
  obtain ⟨h1, h2, h3⟩ := h.2.1 x u hR
  have hx := h.x120 h1
  rw [k_PA_19, if_neg, h3]
  rw [h3, show k_n (nI x) = x from nI_clamp (by omega)]
  exact fun q => q.2.2 h0
theorem kI.PAr {s : kS} {R : Nat → Option Nat} (h : kI s R) {a : Nat → Nat} {x : Nat} (hx : x < 120) (h0 : a x = 0) : ∀ n, n ≤ kr s → k_rofN (k_PA s a) x n = k_rofN s x n
  | 0, _ => rfl
  | n + 1, hn => by
    show (if kF (k_PA s a) 19 n = nI x then nI n else k_rofN (k_PA s a) x n) = (if kF s 19 n = nI x then nI n else k_rofN s x n)
    rw [h.PAr hx h0 n (by omega)]
    refine ki_c ⟨fun q => ?_, fun q => ?_⟩
    · rw [k_PA_19] at q
      split at q
      · exact absurd q.symm (nI_ne (by omega))
      · exact q
    · exact h.PAu (h.inj (by omega) (by omega) q) h0
/-- one task's pass, in the midst of others' -/
theorem kI.PAp {s : kS} {R : Nat → Option Nat} (h : kI s R) {a : Nat → Nat} {x : Nat} (hx : x < 120) (h0 : a x = 0) : k_pass (k_PA s a) x = k_PA s (up1 a x (k_act s x)) := by
  have e9 := k_PA_n s a (f := 9) x (by decide) h0
  have er : k_rof (k_PA s a) x = k_rof s x := h.PAr hx h0 (kr s) (Nat.le_refl _)
  have e18 := k_PA_o s a (f := 18) (k_n (k_rof s x)) (by decide)
  have e1 := k_PA_o s a (f := 1) (x % 12) (by decide)
  have e10 := k_PA_o s a (f := 10) x (by decide)
  unfold k_pass k_act k_lat k_lim
  rw [e9, er, e18, e1, e10, show kl (k_PA s a) = kl s from rfl, show kc (k_PA s a) = kc s from rfl]
  by_cases q1 : kF s 9 x = 2
  · rw [if_pos q1, if_pos q1]
    by_cases q2 : kl s < kc s - kF s 18 (k_n (k_rof s x))
    · rw [if_pos q2, if_pos q2, k_PA_lose h.pl hx h0]
    · rw [if_neg q2, if_neg q2]
      by_cases q3 : 0 < kF s 1 (x % 12) ∧ kF s 1 (x % 12) ≤ kc s - kF s 10 x
      · rw [if_pos q3, if_pos q3, k_PA_fail h.pl hx h0]
      · rw [if_neg q3, if_neg q3, up1_0 h0]
  · rw [if_neg q1, if_neg q1, up1_0 h0]
theorem kI.passA {s : kS} {R : Nat → Option Nat} (h : kI s R) : ∀ n, n ≤ 120 → k_passN s n = k_PA s (fun x => if x < n then k_act s x else 0)
  | 0, _ => by
    rw [show (fun x => if x < 0 then k_act s x else 0) = fun _ => 0 from funext fun x => if_neg (by omega), k_PA_0]
    rfl
  | n + 1, hn => by
    show k_pass (k_passN s n) n = _
    rw [h.passA n (by omega), h.PAp (x := n) (by omega) (if_neg (by omega : ¬ n < n))]
    refine congrArg (k_PA s) (funext fun x => ?_)
    by_cases e : x = n
    · rw [e, up1_s, if_pos (by omega)]
    · rw [up1_n _ _ e]
      exact ki_c ⟨fun q => by omega, fun q => by omega⟩
/-- the runners' list of what happens -/
def k_chA (s : kS) : Nat → Nat → Nat
  | 0 => fun _ => 0
  | u + 1 => if kF s 19 u = -1 then k_chA s u else up1 (k_chA s u) (k_n (kF s 19 u)) (k_act s (k_n (kF s 19 u)))
theorem kI.chA {s : kS} {R : Nat → Option Nat} (h : kI s R) : ∀ n, n ≤ kr s → ∀ x, k_chA s n x = if ∃ u, u < n ∧ R x = some u then k_act s x else 0
  | 0, _, x => (if_neg (fun ⟨u, q, _⟩ => absurd q (Nat.not_lt_zero _))).symm
  | n + 1, hn, x => by
    show (if kF s 19 n = -1 then k_chA s n else up1 (k_chA s n) (k_n (kF s 19 n)) (k_act s (k_n (kF s 19 n)))) x = _
    rcases h.2.2.1 n (by omega) with q | ⟨y, q⟩
    · rw [if_pos q, h.chA n (by omega) x]
      refine ki_c ⟨fun ⟨u, z, w⟩ => ⟨u, by omega, w⟩, fun ⟨u, z, w⟩ => ⟨u, ?_, w⟩⟩
      rcases Nat.lt_or_ge u n with e | e
      · exact e
      · have e : u = n := by omega
        rw [e] at w
        obtain ⟨h1, -, h2⟩ := h.2.1 x n w
        have := h.x120 h1
        exact absurd (h2.symm.trans q) (nI_ne (by omega))
    · obtain ⟨h1, -, h2⟩ := h.2.1 y n q
      have hy := h.x120 h1
      rw [if_neg (fun z => nI_ne (x := y) (by omega) (h2.symm.trans z)), h2, show k_n (nI y) = y from nI_clamp (by omega)]
      by_cases e : x = y
      · rw [e, up1_s, if_pos ⟨n, by omega, q⟩]
      · rw [up1_n _ _ e, h.chA n (by omega) x]
        refine ki_c ⟨fun ⟨u, z, w⟩ => ⟨u, by omega, w⟩, fun ⟨u, z, w⟩ => ⟨u, ?_, w⟩⟩
        rcases Nat.lt_or_ge u n with g | g
        · exact g
        · have g : u = n := by omega
          rw [g] at w
          obtain ⟨h3, -, h4⟩ := h.2.1 x n w
          have := h.x120 h3
          exact absurd ((nI_eq (by omega) (by omega)).mp (h4.symm.trans h2)) e
theorem kI.chP {s : kS} {R : Nat → Option Nat} (h : kI s R) : ∀ n, n ≤ kr s → k_chN s n = k_PA s (k_chA s n)
  | 0, _ => (k_PA_0 s).symm
  | n + 1, hn => by
    show k_ch1 (k_chN s n) n = k_PA s (if kF s 19 n = -1 then k_chA s n else up1 (k_chA s n) (k_n (kF s 19 n)) (k_act s (k_n (kF s 19 n))))
    rw [h.chP n (by omega)]
    rcases h.2.2.1 n (by omega) with q | ⟨y, q⟩
    · rw [if_pos q]
      unfold k_ch1
      rw [if_pos]
      rw [k_PA_19, if_neg (fun z => z.2.1 q), q]
    · obtain ⟨h1, -, h2⟩ := h.2.1 y n q
      have hy := h.x120 h1
      have hn1 : ¬ nI y = -1 := nI_ne (by omega)
      have hcl : k_n (nI y) = y := nI_clamp (by omega)
      have h0 : k_chA s n y = 0 := by
        rw [h.chA n (by omega) y, if_neg]
        rintro ⟨u, z, w⟩
        rw [q] at w
        have := Option.some.inj w
        omega
      have hro : k_n (k_rof s y) = n := by
        rw [h.rof (by omega), q]
        exact nI_clamp (by have := h.1.2.1; omega)
      rw [if_neg (fun z => hn1 (h2.symm.trans z)), h2, hcl, ← h.PAp hy h0]
      unfold k_ch1 k_pass
      rw [h.PAu q h0, if_neg hn1, hcl, if_pos (c := kF (k_PA s (k_chA s n)) 9 y = 2) (by rw [k_PA_n s _ y (by decide) h0]; exact h.runR q)]
      rw [show k_rof (k_PA s (k_chA s n)) y = k_rof s y from h.PAr hy h0 (kr s) (Nat.le_refl _), hro]
theorem kI.check {s : kS} {R : Nat → Option Nat} (h : kI s R) : k_chN s (kr s) = k_passN s (12 * kq s) := by
  have hb := h.1
  rw [h.chP (kr s) (Nat.le_refl _), h.passA (12 * kq s) (by omega)]
  refine congrArg (k_PA s) (funext fun x => ?_)
  rw [h.chA (kr s) (Nat.le_refl _) x]
  by_cases e : ∃ u, u < kr s ∧ R x = some u
  · rw [if_pos e]
    obtain ⟨u, -, q⟩ := e
    rw [if_pos (h.2.1 x u q).1.1]
  · rw [if_neg e]
    have h0 : k_act s x = 0 := if_neg (fun q => e (by
      obtain ⟨u, w⟩ := h.run2 q
      exact ⟨u, (h.2.1 x u w).2.1, w⟩))
    rw [h0]
    split <;> rfl
/-- no runner has anything: nothing happens -/
abbrev k_idle (s : kS) : Prop := ∀ u, u < kr s → kF s 19 u = -1
theorem kI.idle {s : kS} {R : Nat → Option Nat} (h : kI s R) (hi : k_idle s) : ∀ x, ¬ kF s 9 x = 2 := fun x h2 => by
  obtain ⟨u, hR⟩ := h.run2 h2
  obtain ⟨h1, h3, h4⟩ := h.2.1 x u hR
  have := h.x120 h1
  exact nI_ne (x := x) (by omega) (h4.symm.trans (hi u h3))
theorem k_passN_i {s : kS} (h : ∀ x, ¬ kF s 9 x = 2) : ∀ n, k_passN s n = s
  | 0 => rfl
  | n + 1 => by
    show k_pass (k_passN s n) n = s
    rw [k_passN_i h n]
    exact if_neg (h n)
theorem kck_ck (s : kS) (v w : Int32) : kck (kck s v) w = kck s w := rfl
theorem kck_id (s : kS) : kck s (kc s) = s := rfl
theorem k_tick_i {s : kS} (h : ∀ x, ¬ kF s 9 x = 2) (i : Nat) {t : kS} (ht : k_tickN t i = s) : ∀ n, k_tickN t (i + n) = kck s (kc s + nI n)
  | 0 => by
    show k_tickN t i = kck s (kc s + nI 0)
    rw [ht, show kc s + nI 0 = kc s from Int32.add_zero _]
    rfl
  | n + 1 => by
    show k_tick1 (k_tickN t (i + n)) = _
    rw [k_tick_i h i ht n]
    unfold k_tick1
    rw [kck_ck, show kc (kck s (kc s + nI n)) = kc s + nI n from rfl, Int32.add_assoc, nI_1]
    exact k_passN_i (s := kck s (kc s + nI (n + 1))) h _
theorem kI.tick_i {t : kS} {i : Nat} {R : Nat → Option Nat} (h : kI (k_tickN t i) R) (hi : k_idle (k_tickN t i)) {n : Nat} (hn : i ≤ n) : kck (k_tickN t i) (kc t + nI n) = k_tickN t n := by
  have e := k_tick_i (h.idle hi) i (t := t) rfl (n - i)
  rw [show i + (n - i) = n by omega, k_tickN_c, Int32.add_assoc, nI_add, show i + (n - i) = n by omega] at e
  exact e.symm
theorem k_tick_e (t : kS) (n : Nat) : kck (k_tickN t n) (kc t + nI n) = k_tickN t n := by
  rw [← k_tickN_c]
  exact kck_id _
end
section
/-! numbers that the reference reckons with -/
theorem k12m (q : Nat) : (12 : Int32) * nI q = nI (12 * q) := pk_mul 12 q
theorem k12d {x : Nat} (hx : x < 2 ^ 31) : nI x / 12 = nI (x / 12) := pk_div (d := 12) hx (by decide) (by decide)
theorem k12r {x : Nat} (hx : x < 2 ^ 31) : nI x - nI x / 12 * 12 = nI (x % 12) := pk_rem (d := 12) hx (by decide) (by decide)
theorem k_and1 (v : Int32) : v &&& 1 = 0 ∨ v &&& 1 = 1 := by
  obtain ⟨j, hj, e⟩ := pk_andE v (m := 1) 1 (by decide)
  rw [e]
  rcases (show j = 0 ∨ j = 1 by omega) with rfl | rfl
  · exact Or.inl rfl
  · exact Or.inr rfl
theorem k_bit1 {v : Int32} {k : Nat} : (v >>> (nI k &&& 31)) &&& 1 = 1 ↔ k_bit v k := by
  rcases k_and1 (v >>> (nI k &&& 31)) with h | h
  · exact ⟨fun q => by rw [h] at q; exact absurd q (by decide), fun q => absurd h q⟩
  · exact ⟨fun _ q => by rw [h] at q; exact absurd q (by decide), fun _ => h⟩
abbrev kMb (m : kS) : Prop := kj m ≤ 12 ∧ kr m ≤ 6 ∧ kq m ≤ 10
theorem k_ge_lt {a b : Nat} (hb : b < 2 ^ 31) (ha : a < 2 ^ 31) (h : ¬ nI b ≤ nI a) : a < b := by
  rcases Nat.lt_or_ge a b with q | q
  · exact q
  · exact absurd (nI_le q ha) h
theorem k_ge_ge {a b : Nat} (hb : b < 2 ^ 31) (h : nI b ≤ nI a) : b ≤ a := by
  rcases Nat.lt_or_ge a b with q | q
  · exact absurd h (nI_ge q hb)
  · exact q
def k_freeN (s : kS) (x n : Nat) : kS := (s.1, s.2.1, fun f i => if f = 19 ∧ i < n ∧ kF s 19 i = nI x then -1 else kF s f i)
theorem k_freeN_F (s : kS) (x n a b : Nat) : kF (k_freeN s x n) a b = if a = 19 ∧ b < n ∧ kF s 19 b = nI x then -1 else kF s a b := rfl
theorem k_freeN_0 (s : kS) (x : Nat) : k_freeN s x 0 = s := kS_ext rfl rfl (fun f i => by rw [k_freeN_F, if_neg (by omega)])
theorem k_freeN_s (s : kS) (x n : Nat) {v : Int32} (hv : v = if kF s 19 n = nI x then -1 else kF s 19 n) : kw (k_freeN s x n) 19 n v = k_freeN s x (n + 1) := by
  refine kS_ext rfl rfl (fun f i => ?_)
  rw [kw_F, k_freeN_F, k_freeN_F]
  by_cases e : f = 19 ∧ i = n
  · rw [if_pos e, e.1, e.2, hv]
    by_cases q : kF s 19 n = nI x
    · rw [if_pos q, if_pos ⟨rfl, by omega, q⟩]
    · rw [if_neg q, if_neg (fun z => q z.2.2)]
  · rw [if_neg e]
    exact ki_c ⟨fun z => ⟨z.1, by omega, z.2.2⟩, fun z => ⟨z.1, by omega, z.2.2⟩⟩
end
section
/-! the reference's methods -/
theorem q_isJob {g : xm_G} {h : xm_H} {c m : kS} {R : Nat → Option Nat} {A : kA} (hW : kW c R m A h) {a : Int32} : xm_S g 0 m_M_isJob (xm_entry m_M_isJob [.ref (A 6 0), .int a]) h (xq_i fun v h' => v = kbi (k_in a (kj m)) ∧ h' = h) := by
  show xm_S g 0 m_M_isJob (0, [some (.ref (A 6 0)), some (.int a)], []) h _
  refine xr_iload_n d_M_isJob_0 rfl ?_
  refine xr_if_lt (tgt := 16) d_M_isJob_1 rfl (fun c1 => ?_) (fun c1 => ?_)
  · have w : kbi (k_in a (kj m)) = 0 := kbi_f (fun q => q.1 c1)
    refine xr_iconst (v := 0) d_M_isJob_16 rfl ?_
    refine xr_ireturn d_M_isJob_17 rfl rfl rfl ?_
    exact ⟨_, rfl, w.symm, rfl⟩
  · refine xr_iload_n d_M_isJob_4 rfl ?_
    refine xr_aload_n d_M_isJob_5 rfl ?_
    refine xr_getf d_M_isJob_6 xf_5_78 hW.ref rfl ?_
    refine xr_icmp_ge (tgt := 16) d_M_isJob_9 rfl (fun c9 => ?_) (fun c9 => ?_)
    · have w : kbi (k_in a (kj m)) = 0 := kbi_f (fun q => q.2 c9)
      refine xr_iconst (v := 0) d_M_isJob_16 rfl ?_
      refine xr_ireturn d_M_isJob_17 rfl rfl rfl ?_
      exact ⟨_, rfl, w.symm, rfl⟩
    · have w : kbi (k_in a (kj m)) = 1 := kbi_t ⟨c1, c9⟩
      refine xr_iconst (v := 1) d_M_isJob_12 rfl ?_
      refine xr_goto (tgt := 17) d_M_isJob_13 rfl ?_
      refine xr_ireturn d_M_isJob_17 rfl rfl rfl ?_
      exact ⟨_, rfl, w.symm, rfl⟩
theorem q_isRun {g : xm_G} {h : xm_H} {c m : kS} {R : Nat → Option Nat} {A : kA} (hW : kW c R m A h) {a : Int32} : xm_S g 0 m_M_isRun (xm_entry m_M_isRun [.ref (A 6 0), .int a]) h (xq_i fun v h' => v = kbi (k_in a (kq m)) ∧ h' = h) := by
  show xm_S g 0 m_M_isRun (0, [some (.ref (A 6 0)), some (.int a)], []) h _
  refine xr_iload_n d_M_isRun_0 rfl ?_
  refine xr_if_lt (tgt := 16) d_M_isRun_1 rfl (fun c1 => ?_) (fun c1 => ?_)
  · have w : kbi (k_in a (kq m)) = 0 := kbi_f (fun q => q.1 c1)
    refine xr_iconst (v := 0) d_M_isRun_16 rfl ?_
    refine xr_ireturn d_M_isRun_17 rfl rfl rfl ?_
    exact ⟨_, rfl, w.symm, rfl⟩
  · refine xr_iload_n d_M_isRun_4 rfl ?_
    refine xr_aload_n d_M_isRun_5 rfl ?_
    refine xr_getf d_M_isRun_6 xf_5_81 hW.ref rfl ?_
    refine xr_icmp_ge (tgt := 16) d_M_isRun_9 rfl (fun c9 => ?_) (fun c9 => ?_)
    · have w : kbi (k_in a (kq m)) = 0 := kbi_f (fun q => q.2 c9)
      refine xr_iconst (v := 0) d_M_isRun_16 rfl ?_
      refine xr_ireturn d_M_isRun_17 rfl rfl rfl ?_
      exact ⟨_, rfl, w.symm, rfl⟩
    · have w : kbi (k_in a (kq m)) = 1 := kbi_t ⟨c1, c9⟩
      refine xr_iconst (v := 1) d_M_isRun_12 rfl ?_
      refine xr_goto (tgt := 17) d_M_isRun_13 rfl ?_
      refine xr_ireturn d_M_isRun_17 rfl rfl rfl ?_
      exact ⟨_, rfl, w.symm, rfl⟩
theorem q_isRunner {g : xm_G} {h : xm_H} {c m : kS} {R : Nat → Option Nat} {A : kA} (hW : kW c R m A h) {a : Int32} : xm_S g 0 m_M_isRunner (xm_entry m_M_isRunner [.ref (A 6 0), .int a]) h (xq_i fun v h' => v = kbi (k_in a (kr m)) ∧ h' = h) := by
  show xm_S g 0 m_M_isRunner (0, [some (.ref (A 6 0)), some (.int a)], []) h _
  refine xr_iload_n d_M_isRunner_0 rfl ?_
  refine xr_if_lt (tgt := 16) d_M_isRunner_1 rfl (fun c1 => ?_) (fun c1 => ?_)
  · have w : kbi (k_in a (kr m)) = 0 := kbi_f (fun q => q.1 c1)
    refine xr_iconst (v := 0) d_M_isRunner_16 rfl ?_
    refine xr_ireturn d_M_isRunner_17 rfl rfl rfl ?_
    exact ⟨_, rfl, w.symm, rfl⟩
  · refine xr_iload_n d_M_isRunner_4 rfl ?_
    refine xr_aload_n d_M_isRunner_5 rfl ?_
    refine xr_getf d_M_isRunner_6 xf_5_84 hW.ref rfl ?_
    refine xr_icmp_ge (tgt := 16) d_M_isRunner_9 rfl (fun c9 => ?_) (fun c9 => ?_)
    · have w : kbi (k_in a (kr m)) = 0 := kbi_f (fun q => q.2 c9)
      refine xr_iconst (v := 0) d_M_isRunner_16 rfl ?_
      refine xr_ireturn d_M_isRunner_17 rfl rfl rfl ?_
      exact ⟨_, rfl, w.symm, rfl⟩
    · have w : kbi (k_in a (kr m)) = 1 := kbi_t ⟨c1, c9⟩
      refine xr_iconst (v := 1) d_M_isRunner_12 rfl ?_
      refine xr_goto (tgt := 17) d_M_isRunner_13 rfl ?_
      refine xr_ireturn d_M_isRunner_17 rfl rfl rfl ?_
      exact ⟨_, rfl, w.symm, rfl⟩
theorem q_isEnd {g : xm_G} {h : xm_H} {v : Int32} : xm_S g 0 m_M_isEnd (xm_entry m_M_isEnd [.int v]) h (xq_i fun r h' => r = kbi (2 < v) ∧ h' = h) := by
  show xm_S g 0 m_M_isEnd (0, [some (.int v)], []) h _
  refine xr_iload_n d_M_isEnd_0 rfl ?_
  refine xr_iconst (v := 2) d_M_isEnd_1 rfl ?_
  refine xr_icmp_le (tgt := 9) d_M_isEnd_2 rfl (fun c2 => ?_) (fun c2 => ?_)
  · have w : kbi (2 < v) = 0 := kbi_f (ki_nlt.mpr c2)
    refine xr_iconst (v := 0) d_M_isEnd_9 rfl ?_
    refine xr_ireturn d_M_isEnd_10 rfl rfl rfl ?_
    exact ⟨_, rfl, w.symm, rfl⟩
  · have w : kbi (2 < v) = 1 := kbi_t (ki_nle.mp c2)
    refine xr_iconst (v := 1) d_M_isEnd_5 rfl ?_
    refine xr_goto (tgt := 10) d_M_isEnd_6 rfl ?_
    refine xr_ireturn d_M_isEnd_10 rfl rfl rfl ?_
    exact ⟨_, rfl, w.symm, rfl⟩
theorem ql_isOver {g : xm_G} {h : xm_H} {c m : kS} {R : Nat → Option Nat} {A : kA} (hW : kW c R m A h) (hB : kMb m) {r : Nat} (hr : r < 10) : ∀ (n : Nat) (j : Nat) (b2 : Int32), j ≤ kj m → kj m < j + n → b2 = kbi (∀ k, k < j → 2 < kF m 9 (12 * r + k)) → xm_S g 1 m_M_isOver (4, [some (.ref (A 6 0)), some (.int (nI r)), some (.int b2), some (.int (nI j))], []) h (xq_i fun v h' => v = kbi (k_over m r) ∧ h' = h) := by
  intro n
  induction n with
  | zero => intros; omega
  | succ n ih =>
    intro j b2 h1 h2 e2
    refine xr_iload_n d_M_isOver_4 rfl ?_
    refine xr_aload_n d_M_isOver_5 rfl ?_
    refine xr_getf d_M_isOver_6 xf_5_78 hW.ref rfl ?_
    refine xr_icmp_ge (tgt := 45) d_M_isOver_9 rfl (fun c9 => ?_) (fun c9 => ?_)
    · have hje : j = kj m := by have := k_ge_ge (by omega) c9; omega
      refine xr_iload_n d_M_isOver_45 rfl ?_
      refine xr_ireturn d_M_isOver_46 rfl rfl (by rw [e2]; exact kbi_n) ?_
      exact ⟨_, rfl, by rw [e2, hje], rfl⟩
    · have hjl : j < kj m := k_ge_lt (by omega) (by omega) c9
      have hE : kbi (∀ k, k < j + 1 → 2 < kF m 9 (12 * r + k)) = kbi ((∀ k, k < j → 2 < kF m 9 (12 * r + k)) ∧ 2 < kF m 9 (12 * r + j)) := kbi_c kq_s
      refine xr_iload_n d_M_isOver_12 rfl ?_
      refine xr_if_eq (tgt := 37) d_M_isOver_13 rfl (fun c13 => ?_) (fun c13 => ?_)
      · have w2 : kbi ((∀ k, k < j → 2 < kF m 9 (12 * r + k)) ∧ 2 < kF m 9 (12 * r + j)) = 0 := kbi_f (fun q => absurd q.1 (kbi_0.mp (e2.symm.trans c13)))
        refine xr_iconst (v := 0) d_M_isOver_37 rfl ?_
        refine xr_istore_n d_M_isOver_38 (Nat.le_of_ble_eq_true rfl) ?_
        refine xr_iinc1 d_M_isOver_39 rfl ?_
        refine xr_goto (tgt := 4) d_M_isOver_42 rfl ?_
        rw [nI_1]
        exact ih (j + 1) _ (by omega) (by omega) (hE.trans w2).symm
      · refine xr_aload_n d_M_isOver_16 rfl ?_
        refine xr_getf d_M_isOver_17 xf_5_42 hW.ref rfl ?_
        refine xr_bipush (v := 12) d_M_isOver_20 rfl ?_
        refine xr_iload_n d_M_isOver_22 rfl ?_
        refine xr_imul d_M_isOver_23 ?_
        refine xr_iload_n d_M_isOver_24 rfl ?_
        refine xr_iadd d_M_isOver_25 ?_
        refine kr_ild hW (f := 9) (by decide) rfl d_M_isOver_26 (n := 12 * r + j) kx_i (show 12 * r + j < 120 by omega) ?_
        refine xr_S1i d_M_isOver_27 xs_5_94 rfl rfl (Nat.le_of_ble_eq_true rfl) (by decide) q_isEnd (fun v h1 h9 => ?_)
        obtain ⟨rfl, e9⟩ := h9
        have e9 := e9.symm
        subst e9
        refine xr_if_eq (tgt := 37) d_M_isOver_30 rfl (fun c30 => ?_) (fun c30 => ?_)
        · have w2 : kbi ((∀ k, k < j → 2 < kF m 9 (12 * r + k)) ∧ 2 < kF m 9 (12 * r + j)) = 0 := kbi_f (fun q => absurd q.2 (kbi_0.mp c30))
          refine xr_iconst (v := 0) d_M_isOver_37 rfl ?_
          refine xr_istore_n d_M_isOver_38 (Nat.le_of_ble_eq_true rfl) ?_
          refine xr_iinc1 d_M_isOver_39 rfl ?_
          refine xr_goto (tgt := 4) d_M_isOver_42 rfl ?_
          rw [nI_1]
          exact ih (j + 1) _ (by omega) (by omega) (hE.trans w2).symm
        · have w2 : kbi ((∀ k, k < j → 2 < kF m 9 (12 * r + k)) ∧ 2 < kF m 9 (12 * r + j)) = 1 := kbi_t ⟨kbi_n0 (fun z => c13 (e2.trans z)), kbi_n0 c30⟩
          refine xr_iconst (v := 1) d_M_isOver_33 rfl ?_
          refine xr_goto (tgt := 38) d_M_isOver_34 rfl ?_
          refine xr_istore_n d_M_isOver_38 (Nat.le_of_ble_eq_true rfl) ?_
          refine xr_iinc1 d_M_isOver_39 rfl ?_
          refine xr_goto (tgt := 4) d_M_isOver_42 rfl ?_
          rw [nI_1]
          exact ih (j + 1) _ (by omega) (by omega) (hE.trans w2).symm
theorem q_isOver {g : xm_G} {h : xm_H} {c m : kS} {R : Nat → Option Nat} {A : kA} (hW : kW c R m A h) (hB : kMb m) {r : Nat} (hr : r < 10) : xm_S g 1 m_M_isOver (xm_entry m_M_isOver [.ref (A 6 0), .int (nI r)]) h (xq_i fun v h' => v = kbi (k_over m r) ∧ h' = h) := by
  show xm_S g 1 m_M_isOver (0, [some (.ref (A 6 0)), some (.int (nI r)), none, none], []) h _
  refine xr_iconst (v := 1) d_M_isOver_0 rfl ?_
  refine xr_istore_n d_M_isOver_1 (Nat.le_of_ble_eq_true rfl) ?_
  refine xr_iconst (v := 0) d_M_isOver_2 rfl ?_
  refine xr_istore_n d_M_isOver_3 (Nat.le_of_ble_eq_true rfl) ?_
  exact ql_isOver hW hB hr (kj m + 1) 0 1 (by omega) (by omega) (kbi_t lt_0).symm
theorem ql_isApproved {g : xm_G} {h : xm_H} {c m : kS} {R : Nat → Option Nat} {A : kA} (hW : kW c R m A h) {x : Nat} (hx : x < 120) : ∀ (n : Nat) (p : Nat), p ≤ 8 → 8 < p + n → xm_S g 0 m_M_isApproved (4, [some (.ref (A 6 0)), some (.int (nI x)), some (.int (k_cnt (kF m 16 x) p)), some (.int (nI p))], []) h (xq_i fun v h' => v = kbi (1 < k_cnt (kF m 16 x) 8) ∧ h' = h) := by
  intro n
  induction n with
  | zero => intros; omega
  | succ n ih =>
    intro p h1 h2
    refine xr_iload_n d_M_isApproved_4 rfl ?_
    refine xr_bipush (v := 8) d_M_isApproved_5 rfl ?_
    refine xr_icmp_ge (tgt := 29) d_M_isApproved_7 rfl (fun c7 => ?_) (fun c7 => ?_)
    · have hpe : p = 8 := by have := k_ge_ge (b := 8) (by decide) c7; omega
      subst hpe
      refine xr_iload_n d_M_isApproved_29 rfl ?_
      refine xr_iconst (v := 1) d_M_isApproved_30 rfl ?_
      refine xr_icmp_le (tgt := 38) d_M_isApproved_31 rfl (fun c31 => ?_) (fun c31 => ?_)
      · have w : kbi (1 < k_cnt (kF m 16 x) 8) = 0 := kbi_f (ki_nlt.mpr c31)
        refine xr_iconst (v := 0) d_M_isApproved_38 rfl ?_
        refine xr_ireturn d_M_isApproved_39 rfl rfl rfl ?_
        exact ⟨_, rfl, w.symm, rfl⟩
      · have w : kbi (1 < k_cnt (kF m 16 x) 8) = 1 := kbi_t (ki_nle.mp c31)
        refine xr_iconst (v := 1) d_M_isApproved_34 rfl ?_
        refine xr_goto (tgt := 39) d_M_isApproved_35 rfl ?_
        refine xr_ireturn d_M_isApproved_39 rfl rfl rfl ?_
        exact ⟨_, rfl, w.symm, rfl⟩
    · have hpl : p < 8 := k_ge_lt (b := 8) (by decide) (by omega) c7
      refine xr_iload_n d_M_isApproved_10 rfl ?_
      refine xr_aload_n d_M_isApproved_11 rfl ?_
      refine xr_getf d_M_isApproved_12 xf_5_63 hW.ref rfl ?_
      refine xr_iload_n d_M_isApproved_15 rfl ?_
      refine kr_ild hW (f := 16) (by decide) rfl d_M_isApproved_16 (n := x) rfl (show x < 120 from hx) ?_
      refine xr_iload_n d_M_isApproved_17 rfl ?_
      refine xr_ishr d_M_isApproved_18 ?_
      refine xr_iconst (v := 1) d_M_isApproved_19 rfl ?_
      refine xr_iand d_M_isApproved_20 ?_
      refine xr_iadd d_M_isApproved_21 ?_
      refine xr_istore_n d_M_isApproved_22 (Nat.le_of_ble_eq_true rfl) ?_
      refine xr_iinc1 d_M_isApproved_23 rfl ?_
      refine xr_goto (tgt := 4) d_M_isApproved_26 rfl ?_
      rw [nI_1]
      exact ih (p + 1) (by omega) (by omega)
theorem q_isApproved {g : xm_G} {h : xm_H} {c m : kS} {R : Nat → Option Nat} {A : kA} (hW : kW c R m A h) {x : Nat} (hx : x < 120) : xm_S g 0 m_M_isApproved (xm_entry m_M_isApproved [.ref (A 6 0), .int (nI x)]) h (xq_i fun v h' => v = kbi (1 < k_cnt (kF m 16 x) 8) ∧ h' = h) := by
  show xm_S g 0 m_M_isApproved (0, [some (.ref (A 6 0)), some (.int (nI x)), none, none], []) h _
  refine xr_iconst (v := 0) d_M_isApproved_0 rfl ?_
  refine xr_istore_n d_M_isApproved_1 (Nat.le_of_ble_eq_true rfl) ?_
  refine xr_iconst (v := 0) d_M_isApproved_2 rfl ?_
  refine xr_istore_n d_M_isApproved_3 (Nat.le_of_ble_eq_true rfl) ?_
  exact ql_isApproved hW hx 9 0 (by omega) (by omega)
theorem ql_becomes {g : xm_G} {h : xm_H} {c m : kS} {R : Nat → Option Nat} {A : kA} (hW : kW c R m A h) {r j : Nat} (hr : r < 10) (hj : j < 12) (hc : ¬ (¬ kF m 8 r = 0 ∧ kF m 4 j = 0)) : ∀ (n : Nat) (i : Nat) (b3 : Int32) (x5 : Option Value), i ≤ j → j < i + n → b3 = kbi (k_E m r j i) → (kF m 4 j = 0 → k_B m r j i) → xm_S g 1 m_M_becomes (26, [some (.ref (A 6 0)), some (.int (nI r)), some (.int (nI j)), some (.int b3), some (.int (nI i)), x5], []) h (xq_i fun v h' => v = k_bec m r j ∧ h' = h) := by
  intro n
  induction n with
  | zero => intros; omega
  | succ n ih =>
    intro i b3 x5 h1 h2 e3 hN
    refine xr_iload d_M_becomes_26 rfl ?_
    refine xr_iload_n d_M_becomes_28 rfl ?_
    refine xr_icmp_ge (tgt := 112) d_M_becomes_29 rfl (fun c29 => ?_) (fun c29 => ?_)
    · have hie : i = j := by have := k_ge_ge (by omega) c29; omega
      subst hie
      refine xr_iload_n d_M_becomes_112 rfl ?_
      refine xr_if_eq (tgt := 142) d_M_becomes_113 rfl (fun c113 => ?_) (fun c113 => ?_)
      · have w : k_bec m r i = 0 := by
          unfold k_bec
          rw [if_neg hc, if_neg (fun q => q.2 (hN q.1)), if_neg (fun q => absurd q.1 (kbi_0.mp (e3.symm.trans c113)))]
        refine xr_iconst (v := 0) d_M_becomes_142 rfl ?_
        refine xr_ireturn d_M_becomes_143 rfl rfl rfl ?_
        exact ⟨_, rfl, w.symm, rfl⟩
      · have hall : k_all m r i := kbi_n0 (fun z => c113 (e3.trans z))
        refine xr_aload_n d_M_becomes_116 rfl ?_
        refine xr_getf d_M_becomes_117 xf_5_30 hW.ref rfl ?_
        refine xr_iload_n d_M_becomes_120 rfl ?_
        refine kr_zld hW (f := 5) (by decide) rfl d_M_becomes_121 (n := i) rfl (show i < 12 from hj) ?_
        refine xr_if_eq (tgt := 138) d_M_becomes_122 rfl (fun c122 => ?_) (fun c122 => ?_)
        · have w : k_bec m r i = 1 := by
            unfold k_bec
            rw [if_neg hc, if_neg (fun q => q.2 (hN q.1)), if_pos ⟨hall, Or.inl c122⟩]
          refine xr_iconst (v := 1) d_M_becomes_138 rfl ?_
          refine xr_goto (tgt := 143) d_M_becomes_139 rfl ?_
          refine xr_ireturn d_M_becomes_143 rfl rfl rfl ?_
          exact ⟨_, rfl, w.symm, rfl⟩
        · refine xr_aload_n d_M_becomes_125 rfl ?_
          refine xr_bipush (v := 12) d_M_becomes_126 rfl ?_
          refine xr_iload_n d_M_becomes_128 rfl ?_
          refine xr_imul d_M_becomes_129 ?_
          refine xr_iload_n d_M_becomes_130 rfl ?_
          refine xr_iadd d_M_becomes_131 ?_
          rw [kx_i]
          refine xr_V1i d_M_becomes_132 xv_5_97 hW.ref rfl rfl (Nat.le_of_ble_eq_true rfl) (by decide) (q_isApproved hW (x := 12 * r + i) (by omega)) (fun v h1 h9 => ?_)
          obtain ⟨rfl, e9⟩ := h9
          have e9 := e9.symm
          subst e9
          refine xr_if_eq (tgt := 142) d_M_becomes_135 rfl (fun c135 => ?_) (fun c135 => ?_)
          · have w : k_bec m r i = 0 := by
              unfold k_bec
              rw [if_neg hc, if_neg (fun q => q.2 (hN q.1)), if_neg (fun q => q.2.elim c122 (kbi_0.mp c135))]
            refine xr_iconst (v := 0) d_M_becomes_142 rfl ?_
            refine xr_ireturn d_M_becomes_143 rfl rfl rfl ?_
            exact ⟨_, rfl, w.symm, rfl⟩
          · have w : k_bec m r i = 1 := by
              unfold k_bec
              rw [if_neg hc, if_neg (fun q => q.2 (hN q.1)), if_pos ⟨hall, Or.inr (kbi_n0 c135)⟩]
            refine xr_iconst (v := 1) d_M_becomes_138 rfl ?_
            refine xr_goto (tgt := 143) d_M_becomes_139 rfl ?_
            refine xr_ireturn d_M_becomes_143 rfl rfl rfl ?_
            exact ⟨_, rfl, w.symm, rfl⟩
    · have hil : i < j := k_ge_lt (by omega) (by omega) c29
      refine xr_aload_n d_M_becomes_32 rfl ?_
      refine xr_getf d_M_becomes_33 xf_5_23 hW.ref rfl ?_
      refine xr_iload_n d_M_becomes_36 rfl ?_
      refine kr_ild hW (f := 3) (by decide) rfl d_M_becomes_37 (n := j) rfl (show j < 12 from hj) ?_
      refine xr_iload d_M_becomes_38 rfl ?_
      refine xr_ishr d_M_becomes_40 ?_
      refine xr_iconst (v := 1) d_M_becomes_41 rfl ?_
      refine xr_iand d_M_becomes_42 ?_
      refine xr_if_ne (tgt := 49) d_M_becomes_43 rfl (fun c43 => ?_) (fun c43 => ?_)
      · have hbt : k_bit (kF m 3 j) i := c43
        have hE : kbi (k_E m r j (i + 1)) = kbi (k_E m r j i ∧ 2 < kF m 9 (12 * r + i)) := kbi_c (kq_s.trans ⟨fun q => ⟨q.1, q.2 hbt⟩, fun q => ⟨q.1, fun _ => q.2⟩⟩)
        refine xr_aload_n d_M_becomes_49 rfl ?_
        refine xr_getf d_M_becomes_50 xf_5_42 hW.ref rfl ?_
        refine xr_bipush (v := 12) d_M_becomes_53 rfl ?_
        refine xr_iload_n d_M_becomes_55 rfl ?_
        refine xr_imul d_M_becomes_56 ?_
        refine xr_iload d_M_becomes_57 rfl ?_
        refine xr_iadd d_M_becomes_59 ?_
        refine kr_ild hW (f := 9) (by decide) rfl d_M_becomes_60 (n := 12 * r + i) kx_i (show 12 * r + i < 120 by omega) ?_
        refine xr_istore d_M_becomes_61 (Nat.le_of_ble_eq_true rfl) ?_
        refine xr_iload d_M_becomes_63 rfl ?_
        refine xr_S1i d_M_becomes_65 xs_5_94 rfl rfl (Nat.le_of_ble_eq_true rfl) (by decide) q_isEnd (fun v h1 h9 => ?_)
        obtain ⟨rfl, e9⟩ := h9
        have e9 := e9.symm
        subst e9
        refine xr_if_eq (tgt := 88) d_M_becomes_68 rfl (fun c68 => ?_) (fun c68 => ?_)
        · have hN' : kF m 4 j = 0 → k_B m r j (i + 1) := fun z => kq_s.mpr ⟨hN z, fun _ y => absurd y (kbi_0.mp c68)⟩
          refine xr_iload_n d_M_becomes_88 rfl ?_
          refine xr_if_eq (tgt := 104) d_M_becomes_89 rfl (fun c89 => ?_) (fun c89 => ?_)
          · have w3 : kbi (k_E m r j i ∧ 2 < kF m 9 (12 * r + i)) = 0 := kbi_f (fun q => absurd q.1 (kbi_0.mp (e3.symm.trans c89)))
            refine xr_iconst (v := 0) d_M_becomes_104 rfl ?_
            refine xr_istore_n d_M_becomes_105 (Nat.le_of_ble_eq_true rfl) ?_
            have e3' := (hE.trans w3).symm
            refine xr_iinc1 d_M_becomes_106 rfl ?_
            refine xr_goto (tgt := 26) d_M_becomes_109 rfl ?_
            rw [nI_1]
            exact ih (i + 1) _ _ (by omega) (by omega) e3' hN'
          · refine xr_iload d_M_becomes_92 rfl ?_
            refine xr_S1i d_M_becomes_94 xs_5_94 rfl rfl (Nat.le_of_ble_eq_true rfl) (by decide) q_isEnd (fun v h1 h9 => ?_)
            obtain ⟨rfl, e9⟩ := h9
            have e9 := e9.symm
            subst e9
            refine xr_if_eq (tgt := 104) d_M_becomes_97 rfl (fun c97 => ?_) (fun c97 => ?_)
            · have w3 : kbi (k_E m r j i ∧ 2 < kF m 9 (12 * r + i)) = 0 := kbi_f (fun q => absurd q.2 (kbi_0.mp c97))
              refine xr_iconst (v := 0) d_M_becomes_104 rfl ?_
              refine xr_istore_n d_M_becomes_105 (Nat.le_of_ble_eq_true rfl) ?_
              have e3' := (hE.trans w3).symm
              refine xr_iinc1 d_M_becomes_106 rfl ?_
              refine xr_goto (tgt := 26) d_M_becomes_109 rfl ?_
              rw [nI_1]
              exact ih (i + 1) _ _ (by omega) (by omega) e3' hN'
            · have w3 : kbi (k_E m r j i ∧ 2 < kF m 9 (12 * r + i)) = 1 := kbi_t ⟨kbi_n0 (fun z => c89 (e3.trans z)), kbi_n0 c97⟩
              refine xr_iconst (v := 1) d_M_becomes_100 rfl ?_
              refine xr_goto (tgt := 105) d_M_becomes_101 rfl ?_
              refine xr_istore_n d_M_becomes_105 (Nat.le_of_ble_eq_true rfl) ?_
              have e3' := (hE.trans w3).symm
              refine xr_iinc1 d_M_becomes_106 rfl ?_
              refine xr_goto (tgt := 26) d_M_becomes_109 rfl ?_
              rw [nI_1]
              exact ih (i + 1) _ _ (by omega) (by omega) e3' hN'
        · refine xr_iload d_M_becomes_71 rfl ?_
          refine xr_iconst (v := 3) d_M_becomes_73 rfl ?_
          refine xr_icmp_eq (tgt := 88) d_M_becomes_74 rfl (fun c74 => ?_) (fun c74 => ?_)
          · have hN' : kF m 4 j = 0 → k_B m r j (i + 1) := fun z => kq_s.mpr ⟨hN z, fun _ _ => c74⟩
            refine xr_iload_n d_M_becomes_88 rfl ?_
            refine xr_if_eq (tgt := 104) d_M_becomes_89 rfl (fun c89 => ?_) (fun c89 => ?_)
            · have w3 : kbi (k_E m r j i ∧ 2 < kF m 9 (12 * r + i)) = 0 := kbi_f (fun q => absurd q.1 (kbi_0.mp (e3.symm.trans c89)))
              refine xr_iconst (v := 0) d_M_becomes_104 rfl ?_
              refine xr_istore_n d_M_becomes_105 (Nat.le_of_ble_eq_true rfl) ?_
              have e3' := (hE.trans w3).symm
              refine xr_iinc1 d_M_becomes_106 rfl ?_
              refine xr_goto (tgt := 26) d_M_becomes_109 rfl ?_
              rw [nI_1]
              exact ih (i + 1) _ _ (by omega) (by omega) e3' hN'
            · refine xr_iload d_M_becomes_92 rfl ?_
              refine xr_S1i d_M_becomes_94 xs_5_94 rfl rfl (Nat.le_of_ble_eq_true rfl) (by decide) q_isEnd (fun v h1 h9 => ?_)
              obtain ⟨rfl, e9⟩ := h9
              have e9 := e9.symm
              subst e9
              refine xr_if_eq (tgt := 104) d_M_becomes_97 rfl (fun c97 => ?_) (fun c97 => ?_)
              · have w3 : kbi (k_E m r j i ∧ 2 < kF m 9 (12 * r + i)) = 0 := kbi_f (fun q => absurd q.2 (kbi_0.mp c97))
                refine xr_iconst (v := 0) d_M_becomes_104 rfl ?_
                refine xr_istore_n d_M_becomes_105 (Nat.le_of_ble_eq_true rfl) ?_
                have e3' := (hE.trans w3).symm
                refine xr_iinc1 d_M_becomes_106 rfl ?_
                refine xr_goto (tgt := 26) d_M_becomes_109 rfl ?_
                rw [nI_1]
                exact ih (i + 1) _ _ (by omega) (by omega) e3' hN'
              · have w3 : kbi (k_E m r j i ∧ 2 < kF m 9 (12 * r + i)) = 1 := kbi_t ⟨kbi_n0 (fun z => c89 (e3.trans z)), kbi_n0 c97⟩
                refine xr_iconst (v := 1) d_M_becomes_100 rfl ?_
                refine xr_goto (tgt := 105) d_M_becomes_101 rfl ?_
                refine xr_istore_n d_M_becomes_105 (Nat.le_of_ble_eq_true rfl) ?_
                have e3' := (hE.trans w3).symm
                refine xr_iinc1 d_M_becomes_106 rfl ?_
                refine xr_goto (tgt := 26) d_M_becomes_109 rfl ?_
                rw [nI_1]
                exact ih (i + 1) _ _ (by omega) (by omega) e3' hN'
          · refine xr_aload_n d_M_becomes_77 rfl ?_
            refine xr_getf d_M_becomes_78 xf_5_26 hW.ref rfl ?_
            refine xr_iload_n d_M_becomes_81 rfl ?_
            refine kr_zld hW (f := 4) (by decide) rfl d_M_becomes_82 (n := j) rfl (show j < 12 from hj) ?_
            refine xr_if_ne (tgt := 88) d_M_becomes_83 rfl (fun c83 => ?_) (fun c83 => ?_)
            · have hN' : kF m 4 j = 0 → k_B m r j (i + 1) := fun z => absurd z c83
              refine xr_iload_n d_M_becomes_88 rfl ?_
              refine xr_if_eq (tgt := 104) d_M_becomes_89 rfl (fun c89 => ?_) (fun c89 => ?_)
              · have w3 : kbi (k_E m r j i ∧ 2 < kF m 9 (12 * r + i)) = 0 := kbi_f (fun q => absurd q.1 (kbi_0.mp (e3.symm.trans c89)))
                refine xr_iconst (v := 0) d_M_becomes_104 rfl ?_
                refine xr_istore_n d_M_becomes_105 (Nat.le_of_ble_eq_true rfl) ?_
                have e3' := (hE.trans w3).symm
                refine xr_iinc1 d_M_becomes_106 rfl ?_
                refine xr_goto (tgt := 26) d_M_becomes_109 rfl ?_
                rw [nI_1]
                exact ih (i + 1) _ _ (by omega) (by omega) e3' hN'
              · refine xr_iload d_M_becomes_92 rfl ?_
                refine xr_S1i d_M_becomes_94 xs_5_94 rfl rfl (Nat.le_of_ble_eq_true rfl) (by decide) q_isEnd (fun v h1 h9 => ?_)
                obtain ⟨rfl, e9⟩ := h9
                have e9 := e9.symm
                subst e9
                refine xr_if_eq (tgt := 104) d_M_becomes_97 rfl (fun c97 => ?_) (fun c97 => ?_)
                · have w3 : kbi (k_E m r j i ∧ 2 < kF m 9 (12 * r + i)) = 0 := kbi_f (fun q => absurd q.2 (kbi_0.mp c97))
                  refine xr_iconst (v := 0) d_M_becomes_104 rfl ?_
                  refine xr_istore_n d_M_becomes_105 (Nat.le_of_ble_eq_true rfl) ?_
                  have e3' := (hE.trans w3).symm
                  refine xr_iinc1 d_M_becomes_106 rfl ?_
                  refine xr_goto (tgt := 26) d_M_becomes_109 rfl ?_
                  rw [nI_1]
                  exact ih (i + 1) _ _ (by omega) (by omega) e3' hN'
                · have w3 : kbi (k_E m r j i ∧ 2 < kF m 9 (12 * r + i)) = 1 := kbi_t ⟨kbi_n0 (fun z => c89 (e3.trans z)), kbi_n0 c97⟩
                  refine xr_iconst (v := 1) d_M_becomes_100 rfl ?_
                  refine xr_goto (tgt := 105) d_M_becomes_101 rfl ?_
                  refine xr_istore_n d_M_becomes_105 (Nat.le_of_ble_eq_true rfl) ?_
                  have e3' := (hE.trans w3).symm
                  refine xr_iinc1 d_M_becomes_106 rfl ?_
                  refine xr_goto (tgt := 26) d_M_becomes_109 rfl ?_
                  rw [nI_1]
                  exact ih (i + 1) _ _ (by omega) (by omega) e3' hN'
            · refine xr_iconst (v := 5) d_M_becomes_86 rfl ?_
              refine xr_ireturn d_M_becomes_87 rfl rfl rfl ?_
              refine ⟨_, rfl, ?_, rfl⟩
              unfold k_bec
              rw [if_neg hc, if_pos ⟨c83, fun q => c74 (q i hil hbt (kbi_n0 c68))⟩]
      · have hbt : ¬ k_bit (kF m 3 j) i := fun q => q c43
        have e3' : b3 = kbi (k_E m r j (i + 1)) := e3.trans (kbi_c (kq_s.trans ⟨fun q => q.1, fun q => ⟨q, fun z => absurd z hbt⟩⟩).symm)
        have hN' : kF m 4 j = 0 → k_B m r j (i + 1) := fun z => kq_s.mpr ⟨hN z, fun y => absurd y hbt⟩
        refine xr_goto (tgt := 106) d_M_becomes_46 rfl ?_
        refine xr_iinc1 d_M_becomes_106 rfl ?_
        refine xr_goto (tgt := 26) d_M_becomes_109 rfl ?_
        rw [nI_1]
        exact ih (i + 1) _ _ (by omega) (by omega) e3' hN'
theorem q_becomes {g : xm_G} {h : xm_H} {c m : kS} {R : Nat → Option Nat} {A : kA} (hW : kW c R m A h) {r j : Nat} (hr : r < 10) (hj : j < 12) : xm_S g 1 m_M_becomes (xm_entry m_M_becomes [.ref (A 6 0), .int (nI r), .int (nI j)]) h (xq_i fun v h' => v = k_bec m r j ∧ h' = h) := by
  show xm_S g 1 m_M_becomes (0, [some (.ref (A 6 0)), some (.int (nI r)), some (.int (nI j)), none, none, none], []) h _
  refine xr_aload_n d_M_becomes_0 rfl ?_
  refine xr_getf d_M_becomes_1 xf_5_39 hW.ref rfl ?_
  refine xr_iload_n d_M_becomes_4 rfl ?_
  refine kr_zld hW (f := 8) (by decide) rfl d_M_becomes_5 (n := r) rfl (show r < 10 from hr) ?_
  refine xr_if_eq (tgt := 21) d_M_becomes_6 rfl (fun c6 => ?_) (fun c6 => ?_)
  · have hc : ¬ (¬ kF m 8 r = 0 ∧ kF m 4 j = 0) := fun q => q.1 c6
    refine xr_iconst (v := 1) d_M_becomes_21 rfl ?_
    refine xr_istore_n d_M_becomes_22 (Nat.le_of_ble_eq_true rfl) ?_
    refine xr_iconst (v := 0) d_M_becomes_23 rfl ?_
    refine xr_istore d_M_becomes_24 (Nat.le_of_ble_eq_true rfl) ?_
    exact ql_becomes hW hr hj hc (j + 1) 0 1 none (by omega) (by omega) (kbi_t lt_0).symm (fun _ => lt_0)
  · refine xr_aload_n d_M_becomes_9 rfl ?_
    refine xr_getf d_M_becomes_10 xf_5_26 hW.ref rfl ?_
    refine xr_iload_n d_M_becomes_13 rfl ?_
    refine kr_zld hW (f := 4) (by decide) rfl d_M_becomes_14 (n := j) rfl (show j < 12 from hj) ?_
    refine xr_if_ne (tgt := 21) d_M_becomes_15 rfl (fun c15 => ?_) (fun c15 => ?_)
    · have hc : ¬ (¬ kF m 8 r = 0 ∧ kF m 4 j = 0) := fun q => c15 q.2
      refine xr_iconst (v := 1) d_M_becomes_21 rfl ?_
      refine xr_istore_n d_M_becomes_22 (Nat.le_of_ble_eq_true rfl) ?_
      refine xr_iconst (v := 0) d_M_becomes_23 rfl ?_
      refine xr_istore d_M_becomes_24 (Nat.le_of_ble_eq_true rfl) ?_
      exact ql_becomes hW hr hj hc (j + 1) 0 1 none (by omega) (by omega) (kbi_t lt_0).symm (fun _ => lt_0)
    · refine xr_bipush (v := 6) d_M_becomes_18 rfl ?_
      refine xr_ireturn d_M_becomes_20 rfl rfl rfl ?_
      refine ⟨_, rfl, ?_, rfl⟩
      unfold k_bec
      rw [if_pos ⟨c6, c15⟩]
theorem ql_settle {g : xm_G} {h0 : xm_H} {c m : kS} {R : Nat → Option Nat} {A : kA} (hB : kMb m) : ∀ (n : Nat) (x : Nat) (h : xm_H), kW c R (k_settleN m x) A h → h.2 = h0.2 → x ≤ 12 * kq m → 12 * kq m < x + n → xm_S g 2 m_M_settle (2, [some (.ref (A 6 0)), some (.int (nI x))], []) h (xq_v fun h' => kW c R (k_settle m) A h' ∧ h'.2 = h0.2) := by
  intro n
  induction n with
  | zero => intros; omega
  | succ n ih =>
    intro x h hW he h1 h2
    have e1 := k_settleN_1 m x
    have hk : k_settleN m (x + 1) = k_set1 (k_settleN m x) x := rfl
    generalize hC : k_settleN m x = C at *
    have hkq : kq C = kq m := congrArg (fun z => z.2.2) e1
    have hkj : kj C = kj m := congrArg (fun z => z.1) e1
    rw [← hkq] at h1 h2
    have hB3 : kq C ≤ 10 := by rw [hkq]; exact hB.2.2
    have hB1 : kj C ≤ 12 := by rw [hkj]; exact hB.1
    refine xr_iload_n d_M_settle_2 rfl ?_
    refine xr_bipush (v := 12) d_M_settle_3 rfl ?_
    refine xr_aload_n d_M_settle_5 rfl ?_
    refine xr_getf d_M_settle_6 xf_5_81 hW.ref rfl ?_
    refine xr_imul d_M_settle_9 ?_
    rw [k12m]
    refine xr_icmp_ge (tgt := 57) d_M_settle_10 rfl (fun c10 => ?_) (fun c10 => ?_)
    · have hxe : x = 12 * kq C := by have := k_ge_ge (by omega) c10; omega
      refine xr_return d_M_settle_57 rfl rfl ?_
      refine ⟨rfl, ?_, he⟩
      unfold k_settle
      rw [← hkq, ← hxe, hC]
      exact hW
    · have hxl : x < 12 * kq C := k_ge_lt (by omega) (by omega) c10
      refine xr_iload_n d_M_settle_13 rfl ?_
      refine xr_bipush (v := 12) d_M_settle_14 rfl ?_
      refine xr_irem d_M_settle_16 (by decide) ?_
      rw [k12r (by omega)]
      refine xr_aload_n d_M_settle_17 rfl ?_
      refine xr_getf d_M_settle_18 xf_5_78 hW.ref rfl ?_
      refine xr_icmp_ge (tgt := 51) d_M_settle_21 rfl (fun c21 => ?_) (fun c21 => ?_)
      · have hnx : k_settleN m (x + 1) = C := hk.trans (if_neg (fun q => by have := k_ge_ge (by omega) c21; omega))
        refine xr_iinc1 d_M_settle_51 rfl ?_
        refine xr_goto (tgt := 2) d_M_settle_54 rfl ?_
        rw [nI_1]
        exact ih (x + 1) _ (by rw [hnx]; exact hW) he (by omega) (by omega)
      · have hxj : x % 12 < kj C := k_ge_lt (by omega) (by omega) c21
        refine xr_aload_n d_M_settle_24 rfl ?_
        refine xr_getf d_M_settle_25 xf_5_42 hW.ref rfl ?_
        refine xr_iload_n d_M_settle_28 rfl ?_
        refine kr_ild hW (f := 9) (by decide) rfl d_M_settle_29 (n := x) rfl (show x < 120 by omega) ?_
        refine xr_if_ne (tgt := 51) d_M_settle_30 rfl (fun c30 => ?_) (fun c30 => ?_)
        · have hnx : k_settleN m (x + 1) = C := hk.trans (if_neg (fun q => c30 q.2))
          refine xr_iinc1 d_M_settle_51 rfl ?_
          refine xr_goto (tgt := 2) d_M_settle_54 rfl ?_
          rw [nI_1]
          exact ih (x + 1) _ (by rw [hnx]; exact hW) he (by omega) (by omega)
        · have hnx : k_settleN m (x + 1) = kw C 9 x (k_bec C (x / 12) (x % 12)) := hk.trans (if_pos ⟨hxj, c30⟩)
          refine xr_aload_n d_M_settle_33 rfl ?_
          refine xr_getf d_M_settle_34 xf_5_42 hW.ref rfl ?_
          refine xr_iload_n d_M_settle_37 rfl ?_
          refine xr_aload_n d_M_settle_38 rfl ?_
          refine xr_iload_n d_M_settle_39 rfl ?_
          refine xr_bipush (v := 12) d_M_settle_40 rfl ?_
          refine xr_idiv d_M_settle_42 (by decide) ?_
          refine xr_iload_n d_M_settle_43 rfl ?_
          refine xr_bipush (v := 12) d_M_settle_44 rfl ?_
          refine xr_irem d_M_settle_46 (by decide) ?_
          rw [k12r (by omega), k12d (by omega)]
          refine xr_V2i d_M_settle_47 xv_5_100 hW.ref rfl rfl rfl (Nat.le_of_ble_eq_true rfl) (by decide) (q_becomes hW (r := x / 12) (j := x % 12) (by omega) (by omega)) (fun v h1 h9 => ?_)
          obtain ⟨rfl, e9⟩ := h9
          have e9 := e9.symm
          subst e9
          refine kr_ist hW (f := 9) (by decide) rfl d_M_settle_50 (n := x) rfl (show x < 120 by omega) (fun h9s hW he9 => ?_)
          have he := he9.trans he
          refine xr_iinc1 d_M_settle_51 rfl ?_
          refine xr_goto (tgt := 2) d_M_settle_54 rfl ?_
          rw [nI_1]
          exact ih (x + 1) _ (by rw [hnx]; exact hW) he (by omega) (by omega)
theorem q_settle {g : xm_G} {h : xm_H} {c m : kS} {R : Nat → Option Nat} {A : kA} (hW : kW c R m A h) (hB : kMb m) : xm_S g 2 m_M_settle (xm_entry m_M_settle [.ref (A 6 0)]) h (xq_v fun h' => kW c R (k_settle m) A h' ∧ h'.2 = h.2) := by
  show xm_S g 2 m_M_settle (0, [some (.ref (A 6 0)), none], []) h _
  refine xr_iconst (v := 0) d_M_settle_0 rfl ?_
  refine xr_istore_n d_M_settle_1 (Nat.le_of_ble_eq_true rfl) ?_
  exact ql_settle (h0 := h) hB (12 * kq m + 1) 0 h hW rfl (by omega) (by omega)
end
section
/-! the reference's methods, on -/
theorem ql_runnerOf {g : xm_G} {h : xm_H} {c m : kS} {R : Nat → Option Nat} {A : kA} (hW : kW c R m A h) (hB : kMb m) {x : Nat} : ∀ (n : Nat) (k : Nat), k ≤ kr m → kr m < k + n → xm_S g 0 m_M_runnerOf (4, [some (.ref (A 6 0)), some (.int (nI x)), some (.int (k_rofN m x k)), some (.int (nI k))], []) h (xq_i fun v h' => v = k_rof m x ∧ h' = h) := by
  intro n
  induction n with
  | zero => intros; omega
  | succ n ih =>
    intro k h1 h2
    refine xr_iload_n d_M_runnerOf_4 rfl ?_
    refine xr_aload_n d_M_runnerOf_5 rfl ?_
    refine xr_getf d_M_runnerOf_6 xf_5_84 hW.ref rfl ?_
    refine xr_icmp_ge (tgt := 34) d_M_runnerOf_9 rfl (fun c9 => ?_) (fun c9 => ?_)
    · have hke : k = kr m := by have := k_ge_ge (by omega) c9; omega
      refine xr_iload_n d_M_runnerOf_34 rfl ?_
      refine xr_ireturn d_M_runnerOf_35 rfl rfl rfl ?_
      exact ⟨_, rfl, by rw [hke]; rfl, rfl⟩
    · have hkl : k < kr m := k_ge_lt (by omega) (by omega) c9
      have hk : k_rofN m x (k + 1) = if kF m 19 k = nI x then nI k else k_rofN m x k := rfl
      refine xr_aload_n d_M_runnerOf_12 rfl ?_
      refine xr_getf d_M_runnerOf_13 xf_5_72 hW.ref rfl ?_
      refine xr_iload_n d_M_runnerOf_16 rfl ?_
      refine kr_ild hW (f := 19) (by decide) rfl d_M_runnerOf_17 (n := k) rfl (show k < 6 by omega) ?_
      refine xr_iload_n d_M_runnerOf_18 rfl ?_
      refine xr_icmp_ne (tgt := 26) d_M_runnerOf_19 rfl (fun c19 => ?_) (fun c19 => ?_)
      · have hnx := hk.trans (if_neg c19)
        refine xr_iload_n d_M_runnerOf_26 rfl ?_
        refine xr_istore_n d_M_runnerOf_27 (Nat.le_of_ble_eq_true rfl) ?_
        refine xr_iinc1 d_M_runnerOf_28 rfl ?_
        refine xr_goto (tgt := 4) d_M_runnerOf_31 rfl ?_
        rw [nI_1, ← hnx]
        exact ih (k + 1) (by omega) (by omega)
      · have hnx := hk.trans (if_pos c19)
        refine xr_iload_n d_M_runnerOf_22 rfl ?_
        refine xr_goto (tgt := 27) d_M_runnerOf_23 rfl ?_
        refine xr_istore_n d_M_runnerOf_27 (Nat.le_of_ble_eq_true rfl) ?_
        refine xr_iinc1 d_M_runnerOf_28 rfl ?_
        refine xr_goto (tgt := 4) d_M_runnerOf_31 rfl ?_
        rw [nI_1, ← hnx]
        exact ih (k + 1) (by omega) (by omega)
theorem q_runnerOf {g : xm_G} {h : xm_H} {c m : kS} {R : Nat → Option Nat} {A : kA} (hW : kW c R m A h) (hB : kMb m) {x : Nat} : xm_S g 0 m_M_runnerOf (xm_entry m_M_runnerOf [.ref (A 6 0), .int (nI x)]) h (xq_i fun v h' => v = k_rof m x ∧ h' = h) := by
  show xm_S g 0 m_M_runnerOf (0, [some (.ref (A 6 0)), some (.int (nI x)), none, none], []) h _
  refine xr_iconst (v := -1) d_M_runnerOf_0 rfl ?_
  refine xr_istore_n d_M_runnerOf_1 (Nat.le_of_ble_eq_true rfl) ?_
  refine xr_iconst (v := 0) d_M_runnerOf_2 rfl ?_
  refine xr_istore_n d_M_runnerOf_3 (Nat.le_of_ble_eq_true rfl) ?_
  exact ql_runnerOf hW hB (kr m + 1) 0 (by omega) (by omega)
theorem ql_free {g : xm_G} {h0 : xm_H} {c m : kS} {R : Nat → Option Nat} {A : kA} (hB : kMb m) {x : Nat} : ∀ (n : Nat) (k : Nat) (h : xm_H), kW c R (k_freeN m x k) A h → h.2 = h0.2 → k ≤ kr m → kr m < k + n → xm_S g 0 m_M_free (2, [some (.ref (A 6 0)), some (.int (nI x)), some (.int (nI k))], []) h (xq_v fun h' => kW c R (k_free m x) A h' ∧ h'.2 = h0.2) := by
  intro n
  induction n with
  | zero => intros; omega
  | succ n ih =>
    intro k h hW he h1 h2
    refine xr_iload_n d_M_free_2 rfl ?_
    refine xr_aload_n d_M_free_3 rfl ?_
    refine xr_getf d_M_free_4 xf_5_84 hW.ref rfl ?_
    refine xr_icmp_ge (tgt := 42) d_M_free_7 rfl (fun c7 => ?_) (fun c7 => ?_)
    · have hke : k = kr m := by have := k_ge_ge (b := kr m) (by omega) c7; omega
      refine xr_return d_M_free_42 rfl rfl ?_
      refine ⟨rfl, ?_, he⟩
      subst hke
      exact hW
    · have hkl : k < kr m := k_ge_lt (b := kr m) (by omega) (by omega) c7
      have hF : kF (k_freeN m x k) 19 k = kF m 19 k := by rw [k_freeN_F, if_neg (by omega)]
      refine xr_aload_n d_M_free_10 rfl ?_
      refine xr_getf d_M_free_11 xf_5_72 hW.ref rfl ?_
      refine xr_iload_n d_M_free_14 rfl ?_
      refine xr_aload_n d_M_free_15 rfl ?_
      refine xr_getf d_M_free_16 xf_5_72 hW.ref rfl ?_
      refine xr_iload_n d_M_free_19 rfl ?_
      refine kr_ild hW (f := 19) (by decide) rfl d_M_free_20 (n := k) rfl (show k < 6 by omega) ?_
      rw [hF]
      refine xr_iload_n d_M_free_21 rfl ?_
      refine xr_icmp_ne (tgt := 29) d_M_free_22 rfl (fun c22 => ?_) (fun c22 => ?_)
      · have hv : kF m 19 k = if kF m 19 k = nI x then -1 else kF m 19 k := (if_neg c22).symm
        refine xr_aload_n d_M_free_29 rfl ?_
        refine xr_getf d_M_free_30 xf_5_72 hW.ref rfl ?_
        refine xr_iload_n d_M_free_33 rfl ?_
        refine kr_ild hW (f := 19) (by decide) rfl d_M_free_34 (n := k) rfl (show k < 6 by omega) ?_
        rw [hF]
        refine kr_ist hW (f := 19) (by decide) rfl d_M_free_35 (n := k) rfl (show k < 6 by omega) (fun h9s hW he9 => ?_)
        rw [k_freeN_s m x k hv] at hW
        refine xr_iinc1 d_M_free_36 rfl ?_
        refine xr_goto (tgt := 2) d_M_free_39 rfl ?_
        rw [nI_1]
        exact ih (k + 1) _ hW (he9.trans he) (by omega) (by omega)
      · have hv : (-1 : Int32) = if kF m 19 k = nI x then -1 else kF m 19 k := (if_pos c22).symm
        refine xr_iconst (v := -1) d_M_free_25 rfl ?_
        refine xr_goto (tgt := 35) d_M_free_26 rfl ?_
        refine kr_ist hW (f := 19) (by decide) rfl d_M_free_35 (n := k) rfl (show k < 6 by omega) (fun h9s hW he9 => ?_)
        rw [k_freeN_s m x k hv] at hW
        refine xr_iinc1 d_M_free_36 rfl ?_
        refine xr_goto (tgt := 2) d_M_free_39 rfl ?_
        rw [nI_1]
        exact ih (k + 1) _ hW (he9.trans he) (by omega) (by omega)
theorem q_free {g : xm_G} {h : xm_H} {c m : kS} {R : Nat → Option Nat} {A : kA} (hW : kW c R m A h) (hB : kMb m) {x : Nat} : xm_S g 0 m_M_free (xm_entry m_M_free [.ref (A 6 0), .int (nI x)]) h (xq_v fun h' => kW c R (k_free m x) A h' ∧ h'.2 = h.2) := by
  show xm_S g 0 m_M_free (0, [some (.ref (A 6 0)), some (.int (nI x)), none], []) h _
  refine xr_iconst (v := 0) d_M_free_0 rfl ?_
  refine xr_istore_n d_M_free_1 (Nat.le_of_ble_eq_true rfl) ?_
  exact ql_free (h0 := h) hB (kr m + 1) 0 h (by rw [k_freeN_0]; exact hW) rfl (by omega) (by omega)
theorem ql_stop {g : xm_G} {h0 : xm_H} {c m : kS} {R : Nat → Option Nat} {A : kA} (hB : kMb m) {r : Nat} (hr : r < 10) : ∀ (n : Nat) (j : Nat) (x3 : Option Value) (h : xm_H), kW c R (k_stopN m r j) A h → h.2 = h0.2 → j ≤ kj m → kj m < j + n → xm_S g 1 m_M_stop (2, [some (.ref (A 6 0)), some (.int (nI r)), some (.int (nI j)), x3], []) h (xq_v fun h' => kW c R (k_stop m r) A h' ∧ h'.2 = h0.2) := by
  intro n
  induction n with
  | zero => intros; omega
  | succ n ih =>
    intro j x3 h hW he h1 h2
    have e1 := k_stopN_1 m r j
    have hk : k_stopN m r (j + 1) = k_stop1 (k_stopN m r j) r j := rfl
    generalize hC : k_stopN m r j = C at *
    have hkj : kj C = kj m := congrArg (fun z => z.1) e1
    have hBC : kMb C := by unfold kMb kj kr kq at *; rw [e1]; exact hB
    rw [← hkj] at h1 h2
    have hB1 := hBC.1
    refine xr_iload_n d_M_stop_2 rfl ?_
    refine xr_aload_n d_M_stop_3 rfl ?_
    refine xr_getf d_M_stop_4 xf_5_78 hW.ref rfl ?_
    refine xr_icmp_ge (tgt := 60) d_M_stop_7 rfl (fun c7 => ?_) (fun c7 => ?_)
    · have hje : j = kj C := by have := k_ge_ge (by omega) c7; omega
      refine xr_aload_n d_M_stop_60 rfl ?_
      refine xr_getf d_M_stop_61 xf_5_39 hW.ref rfl ?_
      refine xr_iload_n d_M_stop_64 rfl ?_
      refine xr_iconst (v := 1) d_M_stop_65 rfl ?_
      refine kr_zst hW (f := 8) (by decide) rfl d_M_stop_66 (n := r) rfl (show r < 10 from hr) (Or.inr rfl) (fun h9s hW he9 => ?_)
      have he := he9.trans he
      refine xr_return d_M_stop_67 rfl rfl ?_
      refine ⟨rfl, ?_, he⟩
      unfold k_stop
      rw [← hkj, ← hje, hC]
      exact hW
    · have hjl : j < kj C := k_ge_lt (by omega) (by omega) c7
      refine xr_bipush (v := 12) d_M_stop_10 rfl ?_
      refine xr_iload_n d_M_stop_12 rfl ?_
      refine xr_imul d_M_stop_13 ?_
      refine xr_iload_n d_M_stop_14 rfl ?_
      refine xr_iadd d_M_stop_15 ?_
      rw [kx_i]
      refine xr_istore_n d_M_stop_16 (Nat.le_of_ble_eq_true rfl) ?_
      refine xr_aload_n d_M_stop_17 rfl ?_
      refine xr_getf d_M_stop_18 xf_5_26 hW.ref rfl ?_
      refine xr_iload_n d_M_stop_21 rfl ?_
      refine kr_zld hW (f := 4) (by decide) rfl d_M_stop_22 (n := j) rfl (show j < 12 by omega) ?_
      refine xr_if_ne (tgt := 54) d_M_stop_23 rfl (fun c23 => ?_) (fun c23 => ?_)
      · have hnx : k_stopN m r (j + 1) = C := hk.trans (if_pos (Or.inl c23))
        refine xr_iinc1 d_M_stop_54 rfl ?_
        refine xr_goto (tgt := 2) d_M_stop_57 rfl ?_
        rw [nI_1]
        exact ih (j + 1) _ _ (by rw [hnx]; exact hW) he (by omega) (by omega)
      · refine xr_aload_n d_M_stop_26 rfl ?_
        refine xr_getf d_M_stop_27 xf_5_42 hW.ref rfl ?_
        refine xr_iload_n d_M_stop_30 rfl ?_
        refine kr_ild hW (f := 9) (by decide) rfl d_M_stop_31 (n := 12 * r + j) rfl (show 12 * r + j < 120 by omega) ?_
        refine xr_S1i d_M_stop_32 xs_5_94 rfl rfl (Nat.le_of_ble_eq_true rfl) (by decide) q_isEnd (fun v h1 h9 => ?_)
        obtain ⟨rfl, e9⟩ := h9
        have e9 := e9.symm
        subst e9
        refine xr_if_eq (tgt := 41) d_M_stop_35 rfl (fun c35 => ?_) (fun c35 => ?_)
        · have hnx : k_stopN m r (j + 1) = kw (k_free C (12 * r + j)) 9 (12 * r + j) 6 := hk.trans (if_neg (fun q => q.elim (fun z => z c23) (kbi_0.mp c35)))
          refine xr_aload_n d_M_stop_41 rfl ?_
          refine xr_iload_n d_M_stop_42 rfl ?_
          refine xr_V1v d_M_stop_43 xv_5_104 hW.ref rfl rfl (Nat.le_of_ble_eq_true rfl) (by decide) (q_free hW hBC (x := 12 * r + j)) (fun h9s h9 => ?_)
          obtain ⟨hW, he1⟩ := h9
          have he := he1.trans he
          refine xr_aload_n d_M_stop_46 rfl ?_
          refine xr_getf d_M_stop_47 xf_5_42 hW.ref rfl ?_
          refine xr_iload_n d_M_stop_50 rfl ?_
          refine xr_bipush (v := 6) d_M_stop_51 rfl ?_
          refine kr_ist hW (f := 9) (by decide) rfl d_M_stop_53 (n := 12 * r + j) rfl (show 12 * r + j < 120 by omega) (fun h9s hW he9 => ?_)
          have he := he9.trans he
          refine xr_iinc1 d_M_stop_54 rfl ?_
          refine xr_goto (tgt := 2) d_M_stop_57 rfl ?_
          rw [nI_1]
          exact ih (j + 1) _ _ (by rw [hnx]; exact hW) he (by omega) (by omega)
        · have hnx : k_stopN m r (j + 1) = C := hk.trans (if_pos (Or.inr (kbi_n0 c35)))
          refine xr_goto (tgt := 54) d_M_stop_38 rfl ?_
          refine xr_iinc1 d_M_stop_54 rfl ?_
          refine xr_goto (tgt := 2) d_M_stop_57 rfl ?_
          rw [nI_1]
          exact ih (j + 1) _ _ (by rw [hnx]; exact hW) he (by omega) (by omega)
theorem q_stop {g : xm_G} {h : xm_H} {c m : kS} {R : Nat → Option Nat} {A : kA} (hW : kW c R m A h) (hB : kMb m) {r : Nat} (hr : r < 10) : xm_S g 1 m_M_stop (xm_entry m_M_stop [.ref (A 6 0), .int (nI r)]) h (xq_v fun h' => kW c R (k_stop m r) A h' ∧ h'.2 = h.2) := by
  show xm_S g 1 m_M_stop (0, [some (.ref (A 6 0)), some (.int (nI r)), none, none], []) h _
  refine xr_iconst (v := 0) d_M_stop_0 rfl ?_
  refine xr_istore_n d_M_stop_1 (Nat.le_of_ble_eq_true rfl) ?_
  exact ql_stop (h0 := h) hB hr (kj m + 1) 0 none h hW rfl (by omega) (by omega)
theorem q_failTry {g : xm_G} {h : xm_H} {c m : kS} {R : Nat → Option Nat} {A : kA} (hW : kW c R m A h) (hB : kMb m) {x : Nat} (hx : x < 120) : xm_S g 1 m_M_failTry (xm_entry m_M_failTry [.ref (A 6 0), .int (nI x)]) h (xq_v fun h' => kW c R (k_fail m x) A h' ∧ h'.2 = h.2) := by
  show xm_S g 1 m_M_failTry (0, [some (.ref (A 6 0)), some (.int (nI x))], []) h _
  refine xr_aload_n d_M_failTry_0 rfl ?_
  refine xr_getf d_M_failTry_1 xf_5_51 hW.ref rfl ?_
  refine xr_iload_n d_M_failTry_4 rfl ?_
  refine xr_dup2 d_M_failTry_5 rfl rfl ?_
  refine kr_ild hW (f := 12) (by decide) rfl d_M_failTry_6 (n := x) rfl (show x < 120 from hx) ?_
  refine xr_iconst (v := 1) d_M_failTry_7 rfl ?_
  refine xr_iadd d_M_failTry_8 ?_
  refine kr_ist hW (f := 12) (by decide) rfl d_M_failTry_9 (n := x) rfl (show x < 120 from hx) (fun h9s hW he9 => ?_)
  have he1 := he9
  refine xr_aload_n d_M_failTry_10 rfl ?_
  refine xr_getf d_M_failTry_11 xf_5_42 hW.ref rfl ?_
  refine xr_iload_n d_M_failTry_14 rfl ?_
  refine xr_aload_n d_M_failTry_15 rfl ?_
  refine xr_getf d_M_failTry_16 xf_5_51 hW.ref rfl ?_
  refine xr_iload_n d_M_failTry_19 rfl ?_
  refine kr_ild hW (f := 12) (by decide) rfl d_M_failTry_20 (n := x) rfl (show x < 120 from hx) ?_
  rw [kw_F, if_pos ⟨rfl, rfl⟩]
  refine xr_aload_n d_M_failTry_21 rfl ?_
  refine xr_getf d_M_failTry_22 xf_5_20 hW.ref rfl ?_
  refine xr_iload_n d_M_failTry_25 rfl ?_
  refine xr_bipush (v := 12) d_M_failTry_26 rfl ?_
  refine xr_irem d_M_failTry_28 (by decide) ?_
  rw [k12r (by omega)]
  refine kr_ild hW (f := 2) (by decide) rfl d_M_failTry_29 (n := x % 12) rfl (show x % 12 < 12 by omega) ?_
  rw [kw_F, if_neg (fun q => absurd q.1 (by decide))]
  refine xr_icmp_le (tgt := 37) d_M_failTry_30 rfl (fun c30 => ?_) (fun c30 => ?_)
  · have hv : (if kF m 2 (x % 12) < kF m 12 x + 1 then (4 : Int32) else 1) = 1 := if_neg (ki_nlt.mpr c30)
    refine xr_iconst (v := 1) d_M_failTry_37 rfl ?_
    refine kr_ist hW (f := 9) (by decide) rfl d_M_failTry_38 (n := x) rfl (show x < 120 from hx) (fun h9s hW he9 => ?_)
    have he2 := he9.trans he1
    refine xr_aload_n d_M_failTry_39 rfl ?_
    refine xr_iload_n d_M_failTry_40 rfl ?_
    refine xr_V1v d_M_failTry_41 xv_5_104 hW.ref rfl rfl (Nat.le_of_ble_eq_true rfl) (by decide) (q_free hW hB (x := x)) (fun h9s h9 => ?_)
    obtain ⟨hW, he3⟩ := h9
    refine xr_return d_M_failTry_44 rfl rfl ?_
    refine ⟨rfl, ?_, he3.trans he2⟩
    unfold k_fail
    rw [hv]
    exact hW
  · have hv : (if kF m 2 (x % 12) < kF m 12 x + 1 then (4 : Int32) else 1) = 4 := if_pos (ki_nle.mp c30)
    refine xr_iconst (v := 4) d_M_failTry_33 rfl ?_
    refine xr_goto (tgt := 38) d_M_failTry_34 rfl ?_
    refine kr_ist hW (f := 9) (by decide) rfl d_M_failTry_38 (n := x) rfl (show x < 120 from hx) (fun h9s hW he9 => ?_)
    have he2 := he9.trans he1
    refine xr_aload_n d_M_failTry_39 rfl ?_
    refine xr_iload_n d_M_failTry_40 rfl ?_
    refine xr_V1v d_M_failTry_41 xv_5_104 hW.ref rfl rfl (Nat.le_of_ble_eq_true rfl) (by decide) (q_free hW hB (x := x)) (fun h9s h9 => ?_)
    obtain ⟨hW, he3⟩ := h9
    refine xr_return d_M_failTry_44 rfl rfl ?_
    refine ⟨rfl, ?_, he3.trans he2⟩
    unfold k_fail
    rw [hv]
    exact hW
theorem q_isThere {g : xm_G} {h : xm_H} {c m : kS} {R : Nat → Option Nat} {A : kA} (hW : kW c R m A h) {a b : Int32} : xm_S g 1 m_M_isThere (xm_entry m_M_isThere [.ref (A 6 0), .int a, .int b]) h (xq_i fun v h' => v = kbi (k_in a (kq m) ∧ k_in b (kj m)) ∧ h' = h) := by
  show xm_S g 1 m_M_isThere (0, [some (.ref (A 6 0)), some (.int a), some (.int b)], []) h _
  refine xr_aload_n d_M_isThere_0 rfl ?_
  refine xr_iload_n d_M_isThere_1 rfl ?_
  refine xr_V1i d_M_isThere_2 xv_5_117 hW.ref rfl rfl (Nat.le_of_ble_eq_true rfl) (by decide) (q_isRun hW) (fun v h1 h9 => ?_)
  obtain ⟨rfl, e9⟩ := h9
  have e9 := e9.symm
  subst e9
  refine xr_if_eq (tgt := 20) d_M_isThere_5 rfl (fun c5 => ?_) (fun c5 => ?_)
  · have w : kbi (k_in a (kq m) ∧ k_in b (kj m)) = 0 := kbi_f (fun q => kbi_0.mp c5 q.1)
    refine xr_iconst (v := 0) d_M_isThere_20 rfl ?_
    refine xr_ireturn d_M_isThere_21 rfl rfl rfl ?_
    exact ⟨_, rfl, w.symm, rfl⟩
  · refine xr_aload_n d_M_isThere_8 rfl ?_
    refine xr_iload_n d_M_isThere_9 rfl ?_
    refine xr_V1i d_M_isThere_10 xv_5_87 hW.ref rfl rfl (Nat.le_of_ble_eq_true rfl) (by decide) (q_isJob hW) (fun v h1 h9 => ?_)
    obtain ⟨rfl, e9⟩ := h9
    have e9 := e9.symm
    subst e9
    refine xr_if_eq (tgt := 20) d_M_isThere_13 rfl (fun c13 => ?_) (fun c13 => ?_)
    · have w : kbi (k_in a (kq m) ∧ k_in b (kj m)) = 0 := kbi_f (fun q => kbi_0.mp c13 q.2)
      refine xr_iconst (v := 0) d_M_isThere_20 rfl ?_
      refine xr_ireturn d_M_isThere_21 rfl rfl rfl ?_
      exact ⟨_, rfl, w.symm, rfl⟩
    · have w : kbi (k_in a (kq m) ∧ k_in b (kj m)) = 1 := kbi_t ⟨kbi_n0 c5, kbi_n0 c13⟩
      refine xr_iconst (v := 1) d_M_isThere_16 rfl ?_
      refine xr_goto (tgt := 21) d_M_isThere_17 rfl ?_
      refine xr_ireturn d_M_isThere_21 rfl rfl rfl ?_
      exact ⟨_, rfl, w.symm, rfl⟩
theorem m_state {g : xm_G} {h : xm_H} {c m : kS} {R : Nat → Option Nat} {A : kA} (hW : kW c R m A h) (hB : kMb m) {a b : Int32} : xm_S g 2 m_M_state (xm_entry m_M_state [.ref (A 6 0), .int a, .int b]) h (xq_i fun v h' => v = k_state m a b ∧ kW c R m A h' ∧ h'.2 = h.2) := by
  show xm_S g 2 m_M_state (0, [some (.ref (A 6 0)), some (.int a), some (.int b)], []) h _
  refine xr_aload_n d_M_state_0 rfl ?_
  refine xr_iconst (v := 0) d_M_state_1 rfl ?_
  refine kr_pm (m' := m) hW d_M_state_2 xf_5_75 (by decide) rfl rfl (fun h1 hW he0 => ?_)
  refine xr_aload_n d_M_state_5 rfl ?_
  refine xr_iload_n d_M_state_6 rfl ?_
  refine xr_iload_n d_M_state_7 rfl ?_
  refine xr_V2i d_M_state_8 xv_5_120 hW.ref rfl rfl rfl (Nat.le_of_ble_eq_true rfl) (by decide) (q_isThere hW) (fun v h2 h9 => ?_)
  obtain ⟨rfl, e9⟩ := h9
  have e9 := e9.symm
  subst e9
  refine xr_if_eq (tgt := 28) d_M_state_11 rfl (fun c11 => ?_) (fun c11 => ?_)
  · have w : k_state m a b = -1 := if_neg (kbi_0.mp c11)
    refine xr_iconst (v := -1) d_M_state_28 rfl ?_
    refine xr_ireturn d_M_state_29 rfl rfl rfl ?_
    exact ⟨_, rfl, w.symm, hW, he0⟩
  · obtain ⟨hina, hinb⟩ := kbi_n0 c11
    obtain ⟨r, hr, rfl⟩ := k_in_ex (by omega) hina
    obtain ⟨j, hj, rfl⟩ := k_in_ex (by omega) hinb
    have hnr : k_n (nI r) = r := nI_clamp (by omega)
    have hnj : k_n (nI j) = j := nI_clamp (by omega)
    have w : k_state m (nI r) (nI j) = kF m 9 (12 * r + j) := by unfold k_state; rw [if_pos ⟨hina, hinb⟩, hnr, hnj]
    refine xr_aload_n d_M_state_14 rfl ?_
    refine xr_getf d_M_state_15 xf_5_42 hW.ref rfl ?_
    refine xr_bipush (v := 12) d_M_state_18 rfl ?_
    refine xr_iload_n d_M_state_20 rfl ?_
    refine xr_imul d_M_state_21 ?_
    refine xr_iload_n d_M_state_22 rfl ?_
    refine xr_iadd d_M_state_23 ?_
    refine kr_ild hW (f := 9) (by decide) rfl d_M_state_24 (n := 12 * r + j) kx_i (show 12 * r + j < 120 by omega) ?_
    refine xr_goto (tgt := 29) d_M_state_25 rfl ?_
    refine xr_ireturn d_M_state_29 rfl rfl rfl ?_
    exact ⟨_, rfl, w.symm, hW, he0⟩
theorem m_has {g : xm_G} {h : xm_H} {c m : kS} {R : Nat → Option Nat} {A : kA} (hW : kW c R m A h) (hB : kMb m) {a : Int32} : xm_S g 1 m_M_has (xm_entry m_M_has [.ref (A 6 0), .int a]) h (xq_i fun v h' => v = k_has m a ∧ kW c R m A h' ∧ h'.2 = h.2) := by
  show xm_S g 1 m_M_has (0, [some (.ref (A 6 0)), some (.int a)], []) h _
  refine xr_aload_n d_M_has_0 rfl ?_
  refine xr_iconst (v := 0) d_M_has_1 rfl ?_
  refine kr_pm (m' := m) hW d_M_has_2 xf_5_75 (by decide) rfl rfl (fun h1 hW he0 => ?_)
  refine xr_aload_n d_M_has_5 rfl ?_
  refine xr_iload_n d_M_has_6 rfl ?_
  refine xr_V1i d_M_has_7 xv_5_124 hW.ref rfl rfl (Nat.le_of_ble_eq_true rfl) (by decide) (q_isRunner hW) (fun v h2 h9 => ?_)
  obtain ⟨rfl, e9⟩ := h9
  have e9 := e9.symm
  subst e9
  refine xr_if_eq (tgt := 22) d_M_has_10 rfl (fun c10 => ?_) (fun c10 => ?_)
  · have w : k_has m a = -1 := if_neg (kbi_0.mp c10)
    refine xr_iconst (v := -1) d_M_has_22 rfl ?_
    refine xr_ireturn d_M_has_23 rfl rfl rfl ?_
    exact ⟨_, rfl, w.symm, hW, he0⟩
  · have hin := kbi_n0 c10
    obtain ⟨u, hu, rfl⟩ := k_in_ex (by omega) (kbi_n0 c10)
    have hnu : k_n (nI u) = u := nI_clamp (by omega)
    have w : k_has m (nI u) = kF m 19 u := by unfold k_has; rw [if_pos hin, hnu]
    refine xr_aload_n d_M_has_13 rfl ?_
    refine xr_getf d_M_has_14 xf_5_72 hW.ref rfl ?_
    refine xr_iload_n d_M_has_17 rfl ?_
    refine kr_ild hW (f := 19) (by decide) rfl d_M_has_18 (n := u) rfl (show u < 6 by omega) ?_
    refine xr_goto (tgt := 23) d_M_has_19 rfl ?_
    refine xr_ireturn d_M_has_23 rfl rfl rfl ?_
    exact ⟨_, rfl, w.symm, hW, he0⟩
theorem m_lost {g : xm_G} {h : xm_H} {c m : kS} {R : Nat → Option Nat} {A : kA} (hW : kW c R m A h) {t : Int32} : xm_S g 0 m_M_lost (xm_entry m_M_lost [.ref (A 6 0), .int t]) h (xq_i fun v h' => v = (o_lost m t).2 ∧ kW c R (o_lost m t).1 A h' ∧ h'.2 = h.2) := by
  show xm_S g 0 m_M_lost (0, [some (.ref (A 6 0)), some (.int t)], []) h _
  refine xr_aload_n d_M_lost_0 rfl ?_
  refine xr_iconst (v := 0) d_M_lost_1 rfl ?_
  refine kr_pm (m' := m) hW d_M_lost_2 xf_5_75 (by decide) rfl rfl (fun h1 hW he0 => ?_)
  refine xr_iload_n d_M_lost_5 rfl ?_
  refine xr_iconst (v := 1) d_M_lost_6 rfl ?_
  refine xr_icmp_lt (tgt := 16) d_M_lost_7 rfl (fun c7 => ?_) (fun c7 => ?_)
  · have w : o_lost m t = (m, 0) := if_pos (Or.inl c7)
    refine xr_iconst (v := 0) d_M_lost_16 rfl ?_
    refine xr_ireturn d_M_lost_17 rfl rfl rfl ?_
    rw [w]
    exact ⟨_, rfl, rfl, hW, he0⟩
  · refine xr_iload_n d_M_lost_10 rfl ?_
    refine xr_bipush (v := 100) d_M_lost_11 rfl ?_
    refine xr_icmp_le (tgt := 18) d_M_lost_13 rfl (fun c13 => ?_) (fun c13 => ?_)
    · have w : o_lost m t = ((m.1, (kc m, t), kF m), 1) := if_neg (fun q => q.elim c7 (ki_nlt.mpr c13))
      refine xr_aload_n d_M_lost_18 rfl ?_
      refine xr_iload_n d_M_lost_19 rfl ?_
      refine kr_pm (m' := (m.1, (kc m, t), kF m)) hW d_M_lost_20 xf_5_7 (by decide) rfl rfl (fun h2 hW he1 => ?_)
      refine xr_iconst (v := 1) d_M_lost_23 rfl ?_
      refine xr_ireturn d_M_lost_24 rfl rfl rfl ?_
      rw [w]
      exact ⟨_, rfl, rfl, hW, he1.trans he0⟩
    · have w : o_lost m t = (m, 0) := if_pos (Or.inr (ki_nle.mp c13))
      refine xr_iconst (v := 0) d_M_lost_16 rfl ?_
      refine xr_ireturn d_M_lost_17 rfl rfl rfl ?_
      rw [w]
      exact ⟨_, rfl, rfl, hW, he0⟩
theorem m_beat {g : xm_G} {h : xm_H} {c m : kS} {R : Nat → Option Nat} {A : kA} (hW : kW c R m A h) (hB : kMb m) {a : Int32} : xm_S g 1 m_M_beat (xm_entry m_M_beat [.ref (A 6 0), .int a]) h (xq_i fun v h' => v = (o_beat m a).2 ∧ kW c R (o_beat m a).1 A h' ∧ h'.2 = h.2) := by
  show xm_S g 1 m_M_beat (0, [some (.ref (A 6 0)), some (.int a)], []) h _
  refine xr_aload_n d_M_beat_0 rfl ?_
  refine xr_iconst (v := 0) d_M_beat_1 rfl ?_
  refine kr_pm (m' := m) hW d_M_beat_2 xf_5_75 (by decide) rfl rfl (fun h1 hW he0 => ?_)
  refine xr_aload_n d_M_beat_5 rfl ?_
  refine xr_iload_n d_M_beat_6 rfl ?_
  refine xr_V1i d_M_beat_7 xv_5_124 hW.ref rfl rfl (Nat.le_of_ble_eq_true rfl) (by decide) (q_isRunner hW) (fun v h2 h9 => ?_)
  obtain ⟨rfl, e9⟩ := h9
  have e9 := e9.symm
  subst e9
  refine xr_if_eq (tgt := 23) d_M_beat_10 rfl (fun c10 => ?_) (fun c10 => ?_)
  · have w : o_beat m a = (m, 0) := if_neg (fun q => kbi_0.mp c10 q.1)
    refine xr_iconst (v := 0) d_M_beat_23 rfl ?_
    refine xr_ireturn d_M_beat_24 rfl rfl rfl ?_
    rw [w]
    exact ⟨_, rfl, rfl, hW, he0⟩
  · have hin := kbi_n0 c10
    obtain ⟨u, hu, rfl⟩ := k_in_ex (by omega) (kbi_n0 c10)
    have hnu : k_n (nI u) = u := nI_clamp (by omega)
    refine xr_aload_n d_M_beat_13 rfl ?_
    refine xr_getf d_M_beat_14 xf_5_72 hW.ref rfl ?_
    refine xr_iload_n d_M_beat_17 rfl ?_
    refine kr_ild hW (f := 19) (by decide) rfl d_M_beat_18 (n := u) rfl (show u < 6 by omega) ?_
    refine xr_iconst (v := -1) d_M_beat_19 rfl ?_
    refine xr_icmp_ne (tgt := 25) d_M_beat_20 rfl (fun c20 => ?_) (fun c20 => ?_)
    · have w : o_beat m (nI u) = (kw m 18 u (kc m), 1) := by
        unfold o_beat
        rw [hnu, if_pos ⟨hin, c20⟩]
      refine xr_aload_n d_M_beat_25 rfl ?_
      refine xr_getf d_M_beat_26 xf_5_69 hW.ref rfl ?_
      refine xr_iload_n d_M_beat_29 rfl ?_
      refine xr_aload_n d_M_beat_30 rfl ?_
      refine xr_getf d_M_beat_31 xf_5_91 hW.ref rfl ?_
      refine kr_ist hW (f := 18) (by decide) rfl d_M_beat_34 (n := u) rfl (show u < 6 by omega) (fun h9s hW he9 => ?_)
      have he1 := he9
      refine xr_iconst (v := 1) d_M_beat_35 rfl ?_
      refine xr_ireturn d_M_beat_36 rfl rfl rfl ?_
      rw [w]
      exact ⟨_, rfl, rfl, hW, he1.trans he0⟩
    · have w : o_beat m (nI u) = (m, 0) := by
        unfold o_beat
        rw [hnu, if_neg (fun q => q.2 c20)]
      refine xr_iconst (v := 0) d_M_beat_23 rfl ?_
      refine xr_ireturn d_M_beat_24 rfl rfl rfl ?_
      rw [w]
      exact ⟨_, rfl, rfl, hW, he0⟩
theorem ql_verdict {g : xm_G} {h h0 : xm_H} {c m : kS} {R : Nat → Option Nat} {A : kA} (hW : kW c R m A h) (he : h.2 = h0.2) (hB : kMb m) {r : Nat} (hr : r < 10) (ho : k_over m r) : ∀ (n : Nat) (j : Nat) (b2 : Int32), j ≤ kj m → kj m < j + n → b2 = kbi (¬ ∀ k, k < j → ¬ kF m 9 (12 * r + k) = 4) → xm_S g 1 m_M_verdict (29, [some (.ref (A 6 0)), some (.int (nI r)), some (.int b2), some (.int (nI j))], []) h (xq_i fun v h' => v = k_judge m r ∧ kW c R m A h' ∧ h'.2 = h0.2) := by
  intro n
  induction n with
  | zero => intros; omega
  | succ n ih =>
    intro j b2 h1 h2 e2
    refine xr_iload_n d_M_verdict_29 rfl ?_
    refine xr_aload_n d_M_verdict_30 rfl ?_
    refine xr_getf d_M_verdict_31 xf_5_78 hW.ref rfl ?_
    refine xr_icmp_ge (tgt := 68) d_M_verdict_34 rfl (fun c34 => ?_) (fun c34 => ?_)
    · have hje : j = kj m := by have := k_ge_ge (by omega) c34; omega
      subst hje
      have w0 : k_judge m r = if ¬ kF m 8 r = 0 then 3 else if k_anyf m r then 2 else 1 := if_neg (fun q => q ho)
      refine xr_aload_n d_M_verdict_68 rfl ?_
      refine xr_getf d_M_verdict_69 xf_5_39 hW.ref rfl ?_
      refine xr_iload_n d_M_verdict_72 rfl ?_
      refine kr_zld hW (f := 8) (by decide) rfl d_M_verdict_73 (n := r) rfl (show r < 10 from hr) ?_
      refine xr_if_eq (tgt := 81) d_M_verdict_74 rfl (fun c74 => ?_) (fun c74 => ?_)
      · refine xr_iload_n d_M_verdict_81 rfl ?_
        refine xr_if_eq (tgt := 89) d_M_verdict_82 rfl (fun c82 => ?_) (fun c82 => ?_)
        · have w : k_judge m r = 1 := by rw [w0, if_neg (fun q => q c74), if_neg (kbi_0.mp (e2.symm.trans c82))]
          refine xr_iconst (v := 1) d_M_verdict_89 rfl ?_
          refine xr_ireturn d_M_verdict_90 rfl rfl rfl ?_
          exact ⟨_, rfl, w.symm, hW, he⟩
        · have w : k_judge m r = 2 := by rw [w0, if_neg (fun q => q c74), if_pos (kbi_n0 (fun z => c82 (e2.trans z)))]
          refine xr_iconst (v := 2) d_M_verdict_85 rfl ?_
          refine xr_goto (tgt := 90) d_M_verdict_86 rfl ?_
          refine xr_ireturn d_M_verdict_90 rfl rfl rfl ?_
          exact ⟨_, rfl, w.symm, hW, he⟩
      · have w : k_judge m r = 3 := w0.trans (if_pos c74)
        refine xr_iconst (v := 3) d_M_verdict_77 rfl ?_
        refine xr_goto (tgt := 90) d_M_verdict_78 rfl ?_
        refine xr_ireturn d_M_verdict_90 rfl rfl rfl ?_
        exact ⟨_, rfl, w.symm, hW, he⟩
    · have hjl : j < kj m := k_ge_lt (by omega) (by omega) c34
      refine xr_iload_n d_M_verdict_37 rfl ?_
      refine xr_if_ne (tgt := 56) d_M_verdict_38 rfl (fun c38 => ?_) (fun c38 => ?_)
      · have w2 : kbi (¬ ∀ k, k < j + 1 → ¬ kF m 9 (12 * r + k) = 4) = 1 := kbi_t (fun q => kbi_n0 (fun z => c38 (e2.trans z)) (fun k hk => q k (by omega)))
        refine xr_iconst (v := 1) d_M_verdict_56 rfl ?_
        refine xr_goto (tgt := 61) d_M_verdict_57 rfl ?_
        refine xr_istore_n d_M_verdict_61 (Nat.le_of_ble_eq_true rfl) ?_
        refine xr_iinc1 d_M_verdict_62 rfl ?_
        refine xr_goto (tgt := 29) d_M_verdict_65 rfl ?_
        rw [nI_1]
        exact ih (j + 1) _ (by omega) (by omega) w2.symm
      · refine xr_aload_n d_M_verdict_41 rfl ?_
        refine xr_getf d_M_verdict_42 xf_5_42 hW.ref rfl ?_
        refine xr_bipush (v := 12) d_M_verdict_45 rfl ?_
        refine xr_iload_n d_M_verdict_47 rfl ?_
        refine xr_imul d_M_verdict_48 ?_
        refine xr_iload_n d_M_verdict_49 rfl ?_
        refine xr_iadd d_M_verdict_50 ?_
        refine kr_ild hW (f := 9) (by decide) rfl d_M_verdict_51 (n := 12 * r + j) kx_i (show 12 * r + j < 120 by omega) ?_
        refine xr_iconst (v := 4) d_M_verdict_52 rfl ?_
        refine xr_icmp_ne (tgt := 60) d_M_verdict_53 rfl (fun c53 => ?_) (fun c53 => ?_)
        · have w2 : kbi (¬ ∀ k, k < j + 1 → ¬ kF m 9 (12 * r + k) = 4) = 0 := kbi_f (fun q => q (kq_s.mpr ⟨Classical.byContradiction (kbi_0.mp (e2.symm.trans c38)), c53⟩))
          refine xr_iconst (v := 0) d_M_verdict_60 rfl ?_
          refine xr_istore_n d_M_verdict_61 (Nat.le_of_ble_eq_true rfl) ?_
          refine xr_iinc1 d_M_verdict_62 rfl ?_
          refine xr_goto (tgt := 29) d_M_verdict_65 rfl ?_
          rw [nI_1]
          exact ih (j + 1) _ (by omega) (by omega) w2.symm
        · have w2 : kbi (¬ ∀ k, k < j + 1 → ¬ kF m 9 (12 * r + k) = 4) = 1 := kbi_t (fun q => q j (by omega) c53)
          refine xr_iconst (v := 1) d_M_verdict_56 rfl ?_
          refine xr_goto (tgt := 61) d_M_verdict_57 rfl ?_
          refine xr_istore_n d_M_verdict_61 (Nat.le_of_ble_eq_true rfl) ?_
          refine xr_iinc1 d_M_verdict_62 rfl ?_
          refine xr_goto (tgt := 29) d_M_verdict_65 rfl ?_
          rw [nI_1]
          exact ih (j + 1) _ (by omega) (by omega) w2.symm
theorem m_verdict {g : xm_G} {h : xm_H} {c m : kS} {R : Nat → Option Nat} {A : kA} (hW : kW c R m A h) (hB : kMb m) {a : Int32} : xm_S g 2 m_M_verdict (xm_entry m_M_verdict [.ref (A 6 0), .int a]) h (xq_i fun v h' => v = k_verd m a ∧ kW c R m A h' ∧ h'.2 = h.2) := by
  show xm_S g 2 m_M_verdict (0, [some (.ref (A 6 0)), some (.int a), none, none], []) h _
  refine xr_aload_n d_M_verdict_0 rfl ?_
  refine xr_iconst (v := 0) d_M_verdict_1 rfl ?_
  refine kr_pm (m' := m) hW d_M_verdict_2 xf_5_75 (by decide) rfl rfl (fun h1 hW he0 => ?_)
  refine xr_aload_n d_M_verdict_5 rfl ?_
  refine xr_iload_n d_M_verdict_6 rfl ?_
  refine xr_V1i d_M_verdict_7 xv_5_117 hW.ref rfl rfl (Nat.le_of_ble_eq_true rfl) (by decide) (q_isRun hW) (fun v h2 h9 => ?_)
  obtain ⟨rfl, e9⟩ := h9
  have e9 := e9.symm
  subst e9
  refine xr_if_ne (tgt := 15) d_M_verdict_10 rfl (fun c10 => ?_) (fun c10 => ?_)
  · have hin := kbi_n0 c10
    obtain ⟨r, hr, rfl⟩ := k_in_ex (by omega) hin
    have hnr : k_n (nI r) = r := nI_clamp (by omega)
    have w0 : k_verd m (nI r) = k_judge m r := by unfold k_verd; rw [if_pos hin, hnr]
    refine xr_aload_n d_M_verdict_15 rfl ?_
    refine xr_iload_n d_M_verdict_16 rfl ?_
    refine xr_V1i d_M_verdict_17 xv_5_108 hW.ref rfl rfl (Nat.le_of_ble_eq_true rfl) (by decide) (q_isOver hW hB (r := r) (by omega)) (fun v h2 h9 => ?_)
    obtain ⟨rfl, e9⟩ := h9
    have e9 := e9.symm
    subst e9
    refine xr_if_ne (tgt := 25) d_M_verdict_20 rfl (fun c20 => ?_) (fun c20 => ?_)
    · refine xr_iconst (v := 0) d_M_verdict_25 rfl ?_
      refine xr_istore_n d_M_verdict_26 (Nat.le_of_ble_eq_true rfl) ?_
      refine xr_iconst (v := 0) d_M_verdict_27 rfl ?_
      refine xr_istore_n d_M_verdict_28 (Nat.le_of_ble_eq_true rfl) ?_
      rw [w0]
      exact (ql_verdict (h0 := h) hW he0 hB (by omega) (kbi_n0 c20) (kj m + 1) 0 0 (by omega) (by omega) (kbi_f (fun q => q lt_0)).symm).up (by decide)
    · have w : k_verd m (nI r) = 0 := w0.trans (if_pos (kbi_0.mp c20))
      refine xr_iconst (v := 0) d_M_verdict_23 rfl ?_
      refine xr_ireturn d_M_verdict_24 rfl rfl rfl ?_
      exact ⟨_, rfl, w.symm, hW, he0⟩
  · have w : k_verd m a = -1 := if_neg (kbi_0.mp c10)
    refine xr_iconst (v := -1) d_M_verdict_13 rfl ?_
    refine xr_ireturn d_M_verdict_14 rfl rfl rfl ?_
    exact ⟨_, rfl, w.symm, hW, he0⟩
theorem m_cancel {g : xm_G} {h : xm_H} {c m : kS} {R : Nat → Option Nat} {A : kA} (hW : kW c R m A h) (hB : kMb m) {a : Int32} : xm_S g 3 m_M_cancel (xm_entry m_M_cancel [.ref (A 6 0), .int a]) h (xq_i fun v h' => v = (o_cancel m a).2 ∧ kW c R (o_cancel m a).1 A h' ∧ h'.2 = h.2) := by
  show xm_S g 3 m_M_cancel (0, [some (.ref (A 6 0)), some (.int a)], []) h _
  refine xr_aload_n d_M_cancel_0 rfl ?_
  refine xr_iconst (v := 0) d_M_cancel_1 rfl ?_
  refine kr_pm (m' := m) hW d_M_cancel_2 xf_5_75 (by decide) rfl rfl (fun h1 hW he0 => ?_)
  refine xr_aload_n d_M_cancel_5 rfl ?_
  refine xr_iload_n d_M_cancel_6 rfl ?_
  refine xr_V1i d_M_cancel_7 xv_5_117 hW.ref rfl rfl (Nat.le_of_ble_eq_true rfl) (by decide) (q_isRun hW) (fun v h2 h9 => ?_)
  obtain ⟨rfl, e9⟩ := h9
  have e9 := e9.symm
  subst e9
  refine xr_if_eq (tgt := 30) d_M_cancel_10 rfl (fun c10 => ?_) (fun c10 => ?_)
  · have w : o_cancel m a = (m, 0) := if_neg (fun q => kbi_0.mp c10 q.1)
    refine xr_iconst (v := 0) d_M_cancel_30 rfl ?_
    refine xr_ireturn d_M_cancel_31 rfl rfl rfl ?_
    rw [w]
    exact ⟨_, rfl, rfl, hW, he0⟩
  · have hin := kbi_n0 c10
    obtain ⟨r, hr, rfl⟩ := k_in_ex (by omega) hin
    have hnr : k_n (nI r) = r := nI_clamp (by omega)
    refine xr_aload_n d_M_cancel_13 rfl ?_
    refine xr_getf d_M_cancel_14 xf_5_39 hW.ref rfl ?_
    refine xr_iload_n d_M_cancel_17 rfl ?_
    refine kr_zld hW (f := 8) (by decide) rfl d_M_cancel_18 (n := r) rfl (show r < 10 by omega) ?_
    refine xr_if_ne (tgt := 30) d_M_cancel_19 rfl (fun c19 => ?_) (fun c19 => ?_)
    · have w : o_cancel m (nI r) = (m, 0) := by
        unfold o_cancel
        rw [hnr, if_neg (fun q => c19 q.2.1)]
      refine xr_iconst (v := 0) d_M_cancel_30 rfl ?_
      refine xr_ireturn d_M_cancel_31 rfl rfl rfl ?_
      rw [w]
      exact ⟨_, rfl, rfl, hW, he0⟩
    · refine xr_aload_n d_M_cancel_22 rfl ?_
      refine xr_iload_n d_M_cancel_23 rfl ?_
      refine xr_V1i d_M_cancel_24 xv_5_108 hW.ref rfl rfl (Nat.le_of_ble_eq_true rfl) (by decide) (q_isOver hW hB (r := r) (by omega)) (fun v h2 h9 => ?_)
      obtain ⟨rfl, e9⟩ := h9
      have e9 := e9.symm
      subst e9
      refine xr_if_eq (tgt := 32) d_M_cancel_27 rfl (fun c27 => ?_) (fun c27 => ?_)
      · have w : o_cancel m (nI r) = (k_settle (k_stop m r), 1) := by
          unfold o_cancel
          rw [hnr, if_pos ⟨hin, c19, kbi_0.mp c27⟩]
        refine xr_aload_n d_M_cancel_32 rfl ?_
        refine xr_iload_n d_M_cancel_33 rfl ?_
        refine xr_V1v d_M_cancel_34 xv_5_111 hW.ref rfl rfl (Nat.le_of_ble_eq_true rfl) (by decide) (q_stop hW hB (r := r) (by omega)) (fun h9s h9 => ?_)
        obtain ⟨hW, he1⟩ := h9
        have hB2 : kMb (k_stop m r) := by unfold kMb kj kr kq at *; rw [k_stop_1]; exact hB
        refine xr_aload_n d_M_cancel_37 rfl ?_
        refine xr_V0v d_M_cancel_38 xv_5_114 hW.ref rfl (Nat.le_of_ble_eq_true rfl) (by decide) (q_settle hW hB2) (fun h9s h9 => ?_)
        obtain ⟨hW, he2⟩ := h9
        refine xr_iconst (v := 1) d_M_cancel_41 rfl ?_
        refine xr_ireturn d_M_cancel_42 rfl rfl rfl ?_
        rw [w]
        exact ⟨_, rfl, rfl, hW, he2.trans (he1.trans he0)⟩
      · have w : o_cancel m (nI r) = (m, 0) := by
          unfold o_cancel
          rw [hnr, if_neg (fun q => q.2.2 (kbi_n0 c27))]
        refine xr_iconst (v := 0) d_M_cancel_30 rfl ?_
        refine xr_ireturn d_M_cancel_31 rfl rfl rfl ?_
        rw [w]
        exact ⟨_, rfl, rfl, hW, he0⟩
theorem ql_again {g : xm_G} {h0 : xm_H} {c m : kS} {R : Nat → Option Nat} {A : kA} (hB : kMb m) {r : Nat} (hr : r < 10) : ∀ (n : Nat) (j : Nat) (x4 : Option Value) (h : xm_H), kW c R (k_agN m r j) A h → h.2 = h0.2 → j ≤ kj m → kj m < j + n → xm_S g 3 m_M_again (36, [some (.ref (A 6 0)), some (.int (nI r)), some (.int (k_agC m r j)), some (.int (nI j)), x4], []) h (xq_i fun v h' => v = k_agC m r (kj m) ∧ kW c R (k_settle (k_agN m r (kj m))) A h' ∧ h'.2 = h0.2) := by
  intro n
  induction n with
  | zero => intros; omega
  | succ n ih =>
    intro j x4 h hW he h1 h2
    have e1 := k_agN_1 m r j
    have hk : k_agN m r (j + 1) = k_ag1 (k_agN m r j) (12 * r + j) := rfl
    have hkC : k_agC m r (j + 1) = if k_re (k_agN m r j) (12 * r + j) then k_agC m r j + 1 else k_agC m r j := rfl
    generalize hC : k_agN m r j = C at *
    have hkj : kj C = kj m := congrArg (fun z => z.1) e1
    have hBC : kMb C := by unfold kMb kj kr kq at *; rw [e1]; exact hB
    rw [← hkj] at h1 h2
    have hB1 := hBC.1
    refine xr_iload_n d_M_again_36 rfl ?_
    refine xr_aload_n d_M_again_37 rfl ?_
    refine xr_getf d_M_again_38 xf_5_78 hW.ref rfl ?_
    refine xr_icmp_ge (tgt := 110) d_M_again_41 rfl (fun c41 => ?_) (fun c41 => ?_)
    · have hje : j = kj C := by have := k_ge_ge (by omega) c41; omega
      refine xr_aload_n d_M_again_110 rfl ?_
      refine xr_V0v d_M_again_111 xv_5_114 hW.ref rfl (Nat.le_of_ble_eq_true rfl) (by decide) (q_settle hW hBC) (fun h9s h9 => ?_)
      obtain ⟨hW, he1⟩ := h9
      refine xr_iload_n d_M_again_114 rfl ?_
      refine xr_ireturn d_M_again_115 rfl rfl rfl ?_
      refine ⟨_, rfl, by rw [← hkj, ← hje], ?_, he1.trans he⟩
      rw [← hkj, ← hje, hC]
      exact hW
    · have hjl : j < kj C := k_ge_lt (by omega) (by omega) c41
      refine xr_bipush (v := 12) d_M_again_44 rfl ?_
      refine xr_iload_n d_M_again_46 rfl ?_
      refine xr_imul d_M_again_47 ?_
      refine xr_iload_n d_M_again_48 rfl ?_
      refine xr_iadd d_M_again_49 ?_
      rw [kx_i]
      refine xr_istore d_M_again_50 (Nat.le_of_ble_eq_true rfl) ?_
      refine xr_aload_n d_M_again_52 rfl ?_
      refine xr_getf d_M_again_53 xf_5_42 hW.ref rfl ?_
      refine xr_iload d_M_again_56 rfl ?_
      refine kr_ild hW (f := 9) (by decide) rfl d_M_again_58 (n := 12 * r + j) rfl (show 12 * r + j < 120 by omega) ?_
      refine xr_iconst (v := 4) d_M_again_59 rfl ?_
      refine xr_icmp_eq (tgt := 77) d_M_again_60 rfl (fun c60 => ?_) (fun c60 => ?_)
      · have hre : k_re C (12 * r + j) := Or.inl c60
        have hnx : k_agN m r (j + 1) = kw (kw (kw C 9 (12 * r + j) 0) 12 (12 * r + j) 0) 14 (12 * r + j) 0 := hk.trans (if_pos hre)
        have hnc : k_agC m r (j + 1) = k_agC m r j + 1 := hkC.trans (if_pos hre)
        refine xr_aload_n d_M_again_77 rfl ?_
        refine xr_getf d_M_again_78 xf_5_42 hW.ref rfl ?_
        refine xr_iload d_M_again_81 rfl ?_
        refine xr_iconst (v := 0) d_M_again_83 rfl ?_
        refine kr_ist hW (f := 9) (by decide) rfl d_M_again_84 (n := 12 * r + j) rfl (show 12 * r + j < 120 by omega) (fun h9s hW he9 => ?_)
        have he := he9.trans he
        refine xr_aload_n d_M_again_85 rfl ?_
        refine xr_getf d_M_again_86 xf_5_51 hW.ref rfl ?_
        refine xr_iload d_M_again_89 rfl ?_
        refine xr_iconst (v := 0) d_M_again_91 rfl ?_
        refine kr_ist hW (f := 12) (by decide) rfl d_M_again_92 (n := 12 * r + j) rfl (show 12 * r + j < 120 by omega) (fun h9s hW he9 => ?_)
        have he := he9.trans he
        refine xr_aload_n d_M_again_93 rfl ?_
        refine xr_getf d_M_again_94 xf_5_57 hW.ref rfl ?_
        refine xr_iload d_M_again_97 rfl ?_
        refine xr_iconst (v := 0) d_M_again_99 rfl ?_
        refine kr_ist hW (f := 14) (by decide) rfl d_M_again_100 (n := 12 * r + j) rfl (show 12 * r + j < 120 by omega) (fun h9s hW he9 => ?_)
        have he := he9.trans he
        refine xr_iinc1 d_M_again_101 rfl ?_
        refine xr_iinc1 d_M_again_104 rfl ?_
        refine xr_goto (tgt := 36) d_M_again_107 rfl ?_
        rw [nI_1, ← hnc]
        exact ih (j + 1) _ _ (by rw [hnx]; exact hW) he (by omega) (by omega)
      · refine xr_aload_n d_M_again_63 rfl ?_
        refine xr_getf d_M_again_64 xf_5_42 hW.ref rfl ?_
        refine xr_iload d_M_again_67 rfl ?_
        refine kr_ild hW (f := 9) (by decide) rfl d_M_again_69 (n := 12 * r + j) rfl (show 12 * r + j < 120 by omega) ?_
        refine xr_iconst (v := 5) d_M_again_70 rfl ?_
        refine xr_icmp_eq (tgt := 77) d_M_again_71 rfl (fun c71 => ?_) (fun c71 => ?_)
        · have hre : k_re C (12 * r + j) := Or.inr c71
          have hnx : k_agN m r (j + 1) = kw (kw (kw C 9 (12 * r + j) 0) 12 (12 * r + j) 0) 14 (12 * r + j) 0 := hk.trans (if_pos hre)
          have hnc : k_agC m r (j + 1) = k_agC m r j + 1 := hkC.trans (if_pos hre)
          refine xr_aload_n d_M_again_77 rfl ?_
          refine xr_getf d_M_again_78 xf_5_42 hW.ref rfl ?_
          refine xr_iload d_M_again_81 rfl ?_
          refine xr_iconst (v := 0) d_M_again_83 rfl ?_
          refine kr_ist hW (f := 9) (by decide) rfl d_M_again_84 (n := 12 * r + j) rfl (show 12 * r + j < 120 by omega) (fun h9s hW he9 => ?_)
          have he := he9.trans he
          refine xr_aload_n d_M_again_85 rfl ?_
          refine xr_getf d_M_again_86 xf_5_51 hW.ref rfl ?_
          refine xr_iload d_M_again_89 rfl ?_
          refine xr_iconst (v := 0) d_M_again_91 rfl ?_
          refine kr_ist hW (f := 12) (by decide) rfl d_M_again_92 (n := 12 * r + j) rfl (show 12 * r + j < 120 by omega) (fun h9s hW he9 => ?_)
          have he := he9.trans he
          refine xr_aload_n d_M_again_93 rfl ?_
          refine xr_getf d_M_again_94 xf_5_57 hW.ref rfl ?_
          refine xr_iload d_M_again_97 rfl ?_
          refine xr_iconst (v := 0) d_M_again_99 rfl ?_
          refine kr_ist hW (f := 14) (by decide) rfl d_M_again_100 (n := 12 * r + j) rfl (show 12 * r + j < 120 by omega) (fun h9s hW he9 => ?_)
          have he := he9.trans he
          refine xr_iinc1 d_M_again_101 rfl ?_
          refine xr_iinc1 d_M_again_104 rfl ?_
          refine xr_goto (tgt := 36) d_M_again_107 rfl ?_
          rw [nI_1, ← hnc]
          exact ih (j + 1) _ _ (by rw [hnx]; exact hW) he (by omega) (by omega)
        · have hnx : k_agN m r (j + 1) = C := hk.trans (if_neg (fun q => q.elim c60 c71))
          have hnc : k_agC m r (j + 1) = k_agC m r j := hkC.trans (if_neg (fun q => q.elim c60 c71))
          refine xr_goto (tgt := 104) d_M_again_74 rfl ?_
          refine xr_iinc1 d_M_again_104 rfl ?_
          refine xr_goto (tgt := 36) d_M_again_107 rfl ?_
          rw [nI_1, ← hnc]
          exact ih (j + 1) _ _ (by rw [hnx]; exact hW) he (by omega) (by omega)
theorem m_again {g : xm_G} {h : xm_H} {c m : kS} {R : Nat → Option Nat} {A : kA} (hW : kW c R m A h) (hB : kMb m) {a : Int32} : xm_S g 3 m_M_again (xm_entry m_M_again [.ref (A 6 0), .int a]) h (xq_i fun v h' => v = (o_again m a).2 ∧ kW c R (o_again m a).1 A h' ∧ h'.2 = h.2) := by
  show xm_S g 3 m_M_again (0, [some (.ref (A 6 0)), some (.int a), none, none, none], []) h _
  refine xr_aload_n d_M_again_0 rfl ?_
  refine xr_iconst (v := 0) d_M_again_1 rfl ?_
  refine kr_pm (m' := m) hW d_M_again_2 xf_5_75 (by decide) rfl rfl (fun h1 hW he0 => ?_)
  refine xr_aload_n d_M_again_5 rfl ?_
  refine xr_iload_n d_M_again_6 rfl ?_
  refine xr_V1i d_M_again_7 xv_5_117 hW.ref rfl rfl (Nat.le_of_ble_eq_true rfl) (by decide) (q_isRun hW) (fun v h2 h9 => ?_)
  obtain ⟨rfl, e9⟩ := h9
  have e9 := e9.symm
  subst e9
  refine xr_if_eq (tgt := 30) d_M_again_10 rfl (fun c10 => ?_) (fun c10 => ?_)
  · have w : o_again m a = (m, -1) := if_neg (fun q => kbi_0.mp c10 q.1)
    refine xr_iconst (v := -1) d_M_again_30 rfl ?_
    refine xr_ireturn d_M_again_31 rfl rfl rfl ?_
    rw [w]
    exact ⟨_, rfl, rfl, hW, he0⟩
  · have hin := kbi_n0 c10
    obtain ⟨r, hr, rfl⟩ := k_in_ex (by omega) hin
    have hnr : k_n (nI r) = r := nI_clamp (by omega)
    refine xr_aload_n d_M_again_13 rfl ?_
    refine xr_getf d_M_again_14 xf_5_39 hW.ref rfl ?_
    refine xr_iload_n d_M_again_17 rfl ?_
    refine kr_zld hW (f := 8) (by decide) rfl d_M_again_18 (n := r) rfl (show r < 10 by omega) ?_
    refine xr_if_ne (tgt := 30) d_M_again_19 rfl (fun c19 => ?_) (fun c19 => ?_)
    · have w : o_again m (nI r) = (m, -1) := by
        unfold o_again
        rw [hnr, if_neg (fun q => c19 q.2.1)]
      refine xr_iconst (v := -1) d_M_again_30 rfl ?_
      refine xr_ireturn d_M_again_31 rfl rfl rfl ?_
      rw [w]
      exact ⟨_, rfl, rfl, hW, he0⟩
    · refine xr_aload_n d_M_again_22 rfl ?_
      refine xr_iload_n d_M_again_23 rfl ?_
      refine xr_V1i d_M_again_24 xv_5_108 hW.ref rfl rfl (Nat.le_of_ble_eq_true rfl) (by decide) (q_isOver hW hB (r := r) (by omega)) (fun v h2 h9 => ?_)
      obtain ⟨rfl, e9⟩ := h9
      have e9 := e9.symm
      subst e9
      refine xr_if_ne (tgt := 32) d_M_again_27 rfl (fun c27 => ?_) (fun c27 => ?_)
      · have w : o_again m (nI r) = (k_settle (k_agN m r (kj m)), k_agC m r (kj m)) := by
          unfold o_again
          rw [hnr, if_pos ⟨hin, c19, kbi_n0 c27⟩]
        refine xr_iconst (v := 0) d_M_again_32 rfl ?_
        refine xr_istore_n d_M_again_33 (Nat.le_of_ble_eq_true rfl) ?_
        refine xr_iconst (v := 0) d_M_again_34 rfl ?_
        refine xr_istore_n d_M_again_35 (Nat.le_of_ble_eq_true rfl) ?_
        rw [w]
        exact ql_again (h0 := h) hB (by omega) (kj m + 1) 0 none h1 hW he0 (by omega) (by omega)
      · have w : o_again m (nI r) = (m, -1) := by
          unfold o_again
          rw [hnr, if_neg (fun q => kbi_0.mp c27 q.2.2)]
        refine xr_iconst (v := -1) d_M_again_30 rfl ?_
        refine xr_ireturn d_M_again_31 rfl rfl rfl ?_
        rw [w]
        exact ⟨_, rfl, rfl, hW, he0⟩
end
section
/-! the reference's calls, on -/
theorem m_needs {g : xm_G} {h : xm_H} {c m : kS} {R : Nat → Option Nat} {A : kA} (hW : kW c R m A h) (hB : kMb m) {a b : Int32} : xm_S g 1 m_M_needs (xm_entry m_M_needs [.ref (A 6 0), .int a, .int b]) h (xq_i fun v h' => v = (o_needs m a b).2 ∧ kW c R (o_needs m a b).1 A h' ∧ h'.2 = h.2) := by
  show xm_S g 1 m_M_needs (0, [some (.ref (A 6 0)), some (.int a), some (.int b)], []) h _
  refine xr_aload_n d_M_needs_0 rfl ?_
  refine xr_iconst (v := 0) d_M_needs_1 rfl ?_
  refine kr_pm (m' := m) hW d_M_needs_2 xf_5_75 (by decide) rfl rfl (fun h1 hW he0 => ?_)
  refine xr_aload_n d_M_needs_5 rfl ?_
  refine xr_iload_n d_M_needs_6 rfl ?_
  refine xr_V1i d_M_needs_7 xv_5_87 hW.ref rfl rfl (Nat.le_of_ble_eq_true rfl) (by decide) (q_isJob hW) (fun v h2 h9 => ?_)
  obtain ⟨rfl, e9⟩ := h9
  have e9 := e9.symm
  subst e9
  refine xr_if_eq (tgt := 43) d_M_needs_10 rfl (fun c10 => ?_) (fun c10 => ?_)
  · have w : o_needs m a b = (m, 0) := if_neg (fun q => kbi_0.mp c10 ⟨fun z => q.2.2.1 (by have e := q.2.1; simp only [Int32.lt_iff_toInt_lt, Int32.le_iff_toInt_le, ti_0] at *; omega), q.2.2.2.1⟩)
    refine xr_iconst (v := 0) d_M_needs_43 rfl ?_
    refine xr_ireturn d_M_needs_44 rfl rfl rfl ?_
    rw [w]
    exact ⟨_, rfl, rfl, hW, he0⟩
  · have hin := kbi_n0 c10
    obtain ⟨a, ha, rfl⟩ := k_in_ex (by omega) hin
    have hna : k_n (nI a) = a := nI_clamp (by omega)
    refine xr_iload_n d_M_needs_13 rfl ?_
    refine xr_if_lt (tgt := 43) d_M_needs_14 rfl (fun c14 => ?_) (fun c14 => ?_)
    · have w : o_needs m (nI a) b = (m, 0) := if_neg (fun q => q.2.1 c14)
      refine xr_iconst (v := 0) d_M_needs_43 rfl ?_
      refine xr_ireturn d_M_needs_44 rfl rfl rfl ?_
      rw [w]
      exact ⟨_, rfl, rfl, hW, he0⟩
    · refine xr_iload_n d_M_needs_17 rfl ?_
      refine xr_iload_n d_M_needs_18 rfl ?_
      refine xr_icmp_ge (tgt := 43) d_M_needs_19 rfl (fun c19 => ?_) (fun c19 => ?_)
      · have w : o_needs m (nI a) b = (m, 0) := if_neg (fun q => q.2.2.1 c19)
        refine xr_iconst (v := 0) d_M_needs_43 rfl ?_
        refine xr_ireturn d_M_needs_44 rfl rfl rfl ?_
        rw [w]
        exact ⟨_, rfl, rfl, hW, he0⟩
      · obtain ⟨b, hb, rfl⟩ := k_in_ex (v := b) (n := a) (by omega) ⟨c14, c19⟩
        have hnb : k_n (nI b) = b := nI_clamp (by omega)
        refine xr_aload_n d_M_needs_22 rfl ?_
        refine xr_getf d_M_needs_23 xf_5_23 hW.ref rfl ?_
        refine xr_iload_n d_M_needs_26 rfl ?_
        refine kr_ild hW (f := 3) (by decide) rfl d_M_needs_27 (n := a) rfl (show a < 12 by omega) ?_
        refine xr_iload_n d_M_needs_28 rfl ?_
        refine xr_ishr d_M_needs_29 ?_
        refine xr_iconst (v := 1) d_M_needs_30 rfl ?_
        refine xr_iand d_M_needs_31 ?_
        refine xr_iconst (v := 1) d_M_needs_32 rfl ?_
        refine xr_icmp_eq (tgt := 43) d_M_needs_33 rfl (fun c33 => ?_) (fun c33 => ?_)
        · have w : o_needs m (nI a) (nI b) = (m, 0) := by
            unfold o_needs
            rw [hna, hnb, if_neg (fun q => q.2.2.2.2 (k_bit1.mp c33))]
          refine xr_iconst (v := 0) d_M_needs_43 rfl ?_
          refine xr_ireturn d_M_needs_44 rfl rfl rfl ?_
          rw [w]
          exact ⟨_, rfl, rfl, hW, he0⟩
        · refine xr_aload_n d_M_needs_36 rfl ?_
          refine xr_getf d_M_needs_37 xf_5_81 hW.ref rfl ?_
          refine xr_if_le (tgt := 45) d_M_needs_40 rfl (fun c40 => ?_) (fun c40 => ?_)
          · have hq0 : kq m = 0 := by
              rcases Nat.eq_zero_or_pos (kq m) with q | q
              · exact q
              · exact absurd c40 (ki_nle.mpr (show (0 : Int32) < nI (kq m) from nI_lt (a := 0) q (by omega)))
            have w : o_needs m (nI a) (nI b) = (kw m 3 a (kF m 3 a ||| ((1 : Int32) <<< (nI b &&& 31))), 1) := by
              unfold o_needs
              rw [hna, hnb, if_pos ⟨hq0, c14, c19, hin.2, fun q => c33 (k_bit1.mpr q)⟩]
            refine xr_aload_n d_M_needs_45 rfl ?_
            refine xr_getf d_M_needs_46 xf_5_23 hW.ref rfl ?_
            refine xr_iload_n d_M_needs_49 rfl ?_
            refine xr_dup2 d_M_needs_50 rfl rfl ?_
            refine kr_ild hW (f := 3) (by decide) rfl d_M_needs_51 (n := a) rfl (show a < 12 by omega) ?_
            refine xr_iconst (v := 1) d_M_needs_52 rfl ?_
            refine xr_iload_n d_M_needs_53 rfl ?_
            refine xr_ishl d_M_needs_54 ?_
            refine xr_ior d_M_needs_55 ?_
            refine kr_ist hW (f := 3) (by decide) rfl d_M_needs_56 (n := a) rfl (show a < 12 by omega) (fun h9s hW he9 => ?_)
            have he1 := he9
            refine xr_iconst (v := 1) d_M_needs_57 rfl ?_
            refine xr_ireturn d_M_needs_58 rfl rfl rfl ?_
            rw [w]
            exact ⟨_, rfl, rfl, hW, he1.trans he0⟩
          · have w : o_needs m (nI a) (nI b) = (m, 0) := if_neg (fun q => by rw [q.1] at c40; exact absurd (show nI 0 ≤ 0 by decide) c40)
            refine xr_iconst (v := 0) d_M_needs_43 rfl ?_
            refine xr_ireturn d_M_needs_44 rfl rfl rfl ?_
            rw [w]
            exact ⟨_, rfl, rfl, hW, he0⟩
theorem m_approve {g : xm_G} {h : xm_H} {c m : kS} {R : Nat → Option Nat} {A : kA} (hW : kW c R m A h) (hB : kMb m) {a b p : Int32} : xm_S g 3 m_M_approve (xm_entry m_M_approve [.ref (A 6 0), .int a, .int b, .int p]) h (xq_i fun v h' => v = (o_appr m a b p).2 ∧ kW c R (o_appr m a b p).1 A h' ∧ h'.2 = h.2) := by
  show xm_S g 3 m_M_approve (0, [some (.ref (A 6 0)), some (.int a), some (.int b), some (.int p)], []) h _
  refine xr_aload_n d_M_approve_0 rfl ?_
  refine xr_iconst (v := 0) d_M_approve_1 rfl ?_
  refine kr_pm (m' := m) hW d_M_approve_2 xf_5_75 (by decide) rfl rfl (fun h1 hW he0 => ?_)
  refine xr_aload_n d_M_approve_5 rfl ?_
  refine xr_iload_n d_M_approve_6 rfl ?_
  refine xr_iload_n d_M_approve_7 rfl ?_
  refine xr_V2i d_M_approve_8 xv_5_120 hW.ref rfl rfl rfl (Nat.le_of_ble_eq_true rfl) (by decide) (q_isThere hW) (fun v h2 h9 => ?_)
  obtain ⟨rfl, e9⟩ := h9
  have e9 := e9.symm
  subst e9
  refine xr_if_eq (tgt := 50) d_M_approve_11 rfl (fun c11 => ?_) (fun c11 => ?_)
  · have w : o_appr m a b p = (m, -1) := if_neg (fun q => kbi_0.mp c11 ⟨q.1, q.2.1⟩)
    refine xr_iconst (v := -1) d_M_approve_50 rfl ?_
    refine xr_ireturn d_M_approve_51 rfl rfl rfl ?_
    rw [w]
    exact ⟨_, rfl, rfl, hW, he0⟩
  · obtain ⟨hina, hinb⟩ := kbi_n0 c11
    obtain ⟨r, hr, rfl⟩ := k_in_ex (by omega) hina
    obtain ⟨j, hj, rfl⟩ := k_in_ex (by omega) hinb
    have hnr : k_n (nI r) = r := nI_clamp (by omega)
    have hnj : k_n (nI j) = j := nI_clamp (by omega)
    refine xr_iload_n d_M_approve_14 rfl ?_
    refine xr_if_lt (tgt := 50) d_M_approve_15 rfl (fun c15 => ?_) (fun c15 => ?_)
    · have w : o_appr m (nI r) (nI j) p = (m, -1) := if_neg (fun q => q.2.2.1.1 c15)
      refine xr_iconst (v := -1) d_M_approve_50 rfl ?_
      refine xr_ireturn d_M_approve_51 rfl rfl rfl ?_
      rw [w]
      exact ⟨_, rfl, rfl, hW, he0⟩
    · refine xr_iload_n d_M_approve_18 rfl ?_
      refine xr_bipush (v := 8) d_M_approve_19 rfl ?_
      refine xr_icmp_ge (tgt := 50) d_M_approve_21 rfl (fun c21 => ?_) (fun c21 => ?_)
      · have w : o_appr m (nI r) (nI j) p = (m, -1) := if_neg (fun q => q.2.2.1.2 c21)
        refine xr_iconst (v := -1) d_M_approve_50 rfl ?_
        refine xr_ireturn d_M_approve_51 rfl rfl rfl ?_
        rw [w]
        exact ⟨_, rfl, rfl, hW, he0⟩
      · obtain ⟨p, hp, rfl⟩ := k_in_ex (v := p) (n := 8) (by decide) ⟨c15, c21⟩
        have hnp : k_n (nI p) = p := nI_clamp (by omega)
        refine xr_aload_n d_M_approve_24 rfl ?_
        refine xr_getf d_M_approve_25 xf_5_30 hW.ref rfl ?_
        refine xr_iload_n d_M_approve_28 rfl ?_
        refine kr_zld hW (f := 5) (by decide) rfl d_M_approve_29 (n := j) rfl (show j < 12 by omega) ?_
        refine xr_if_eq (tgt := 50) d_M_approve_30 rfl (fun c30 => ?_) (fun c30 => ?_)
        · have w : o_appr m (nI r) (nI j) (nI p) = (m, -1) := by
            unfold o_appr
            rw [hnr, hnj, if_neg (fun q => q.2.2.2.1 c30)]
          refine xr_iconst (v := -1) d_M_approve_50 rfl ?_
          refine xr_ireturn d_M_approve_51 rfl rfl rfl ?_
          rw [w]
          exact ⟨_, rfl, rfl, hW, he0⟩
        · refine xr_aload_n d_M_approve_33 rfl ?_
          refine xr_getf d_M_approve_34 xf_5_42 hW.ref rfl ?_
          refine xr_bipush (v := 12) d_M_approve_37 rfl ?_
          refine xr_iload_n d_M_approve_39 rfl ?_
          refine xr_imul d_M_approve_40 ?_
          refine xr_iload_n d_M_approve_41 rfl ?_
          refine xr_iadd d_M_approve_42 ?_
          refine kr_ild hW (f := 9) (by decide) rfl d_M_approve_43 (n := 12 * r + j) kx_i (show 12 * r + j < 120 by omega) ?_
          refine xr_S1i d_M_approve_44 xs_5_94 rfl rfl (Nat.le_of_ble_eq_true rfl) (by decide) q_isEnd (fun v h1 h9 => ?_)
          obtain ⟨rfl, e9⟩ := h9
          have e9 := e9.symm
          subst e9
          refine xr_if_eq (tgt := 52) d_M_approve_47 rfl (fun c47 => ?_) (fun c47 => ?_)
          · have w0 : o_appr m (nI r) (nI j) (nI p) = (if kF m 6 r = nI p then (m, -2) else if k_bit (kF m 16 (12 * r + j)) p then (m, 0) else (k_settle (kw m 16 (12 * r + j) (kF m 16 (12 * r + j) ||| ((1 : Int32) <<< (nI p &&& 31)))), 1)) := by
              unfold o_appr
              rw [hnr, hnj, hnp, if_pos ⟨hina, hinb, ⟨c15, c21⟩, c30, kbi_0.mp c47⟩]
            refine xr_aload_n d_M_approve_52 rfl ?_
            refine xr_getf d_M_approve_53 xf_5_33 hW.ref rfl ?_
            refine xr_iload_n d_M_approve_56 rfl ?_
            refine kr_ild hW (f := 6) (by decide) rfl d_M_approve_57 (n := r) rfl (show r < 10 by omega) ?_
            refine xr_iload_n d_M_approve_58 rfl ?_
            refine xr_icmp_ne (tgt := 65) d_M_approve_59 rfl (fun c59 => ?_) (fun c59 => ?_)
            · have w1 := w0.trans (if_neg c59)
              refine xr_aload_n d_M_approve_65 rfl ?_
              refine xr_getf d_M_approve_66 xf_5_63 hW.ref rfl ?_
              refine xr_bipush (v := 12) d_M_approve_69 rfl ?_
              refine xr_iload_n d_M_approve_71 rfl ?_
              refine xr_imul d_M_approve_72 ?_
              refine xr_iload_n d_M_approve_73 rfl ?_
              refine xr_iadd d_M_approve_74 ?_
              refine kr_ild hW (f := 16) (by decide) rfl d_M_approve_75 (n := 12 * r + j) kx_i (show 12 * r + j < 120 by omega) ?_
              refine xr_iload_n d_M_approve_76 rfl ?_
              refine xr_ishr d_M_approve_77 ?_
              refine xr_iconst (v := 1) d_M_approve_78 rfl ?_
              refine xr_iand d_M_approve_79 ?_
              refine xr_iconst (v := 1) d_M_approve_80 rfl ?_
              refine xr_icmp_ne (tgt := 86) d_M_approve_81 rfl (fun c81 => ?_) (fun c81 => ?_)
              · have w := w1.trans (if_neg (fun q => c81 (k_bit1.mpr q)))
                refine xr_aload_n d_M_approve_86 rfl ?_
                refine xr_getf d_M_approve_87 xf_5_63 hW.ref rfl ?_
                refine xr_bipush (v := 12) d_M_approve_90 rfl ?_
                refine xr_iload_n d_M_approve_92 rfl ?_
                refine xr_imul d_M_approve_93 ?_
                refine xr_iload_n d_M_approve_94 rfl ?_
                refine xr_iadd d_M_approve_95 ?_
                refine xr_dup2 d_M_approve_96 rfl rfl ?_
                refine kr_ild hW (f := 16) (by decide) rfl d_M_approve_97 (n := 12 * r + j) kx_i (show 12 * r + j < 120 by omega) ?_
                refine xr_iconst (v := 1) d_M_approve_98 rfl ?_
                refine xr_iload_n d_M_approve_99 rfl ?_
                refine xr_ishl d_M_approve_100 ?_
                refine xr_ior d_M_approve_101 ?_
                refine kr_ist hW (f := 16) (by decide) rfl d_M_approve_102 (n := 12 * r + j) kx_i (show 12 * r + j < 120 by omega) (fun h9s hW he9 => ?_)
                have he1 := he9
                refine xr_aload_n d_M_approve_103 rfl ?_
                refine xr_V0v d_M_approve_104 xv_5_114 hW.ref rfl (Nat.le_of_ble_eq_true rfl) (by decide) (q_settle hW hB) (fun h9s h9 => ?_)
                obtain ⟨hW, he2⟩ := h9
                refine xr_iconst (v := 1) d_M_approve_107 rfl ?_
                refine xr_ireturn d_M_approve_108 rfl rfl rfl ?_
                rw [w]
                exact ⟨_, rfl, rfl, hW, he2.trans (he1.trans he0)⟩
              · have w := w1.trans (if_pos (k_bit1.mp c81))
                refine xr_iconst (v := 0) d_M_approve_84 rfl ?_
                refine xr_ireturn d_M_approve_85 rfl rfl rfl ?_
                rw [w]
                exact ⟨_, rfl, rfl, hW, he0⟩
            · have w := w0.trans (if_pos c59)
              refine xr_bipush (v := -2) d_M_approve_62 rfl ?_
              refine xr_ireturn d_M_approve_64 rfl rfl rfl ?_
              rw [w]
              exact ⟨_, rfl, rfl, hW, he0⟩
          · have w : o_appr m (nI r) (nI j) (nI p) = (m, -1) := by
              unfold o_appr
              rw [hnr, hnj, if_neg (fun q => q.2.2.2.2 (kbi_n0 c47))]
            refine xr_iconst (v := -1) d_M_approve_50 rfl ?_
            refine xr_ireturn d_M_approve_51 rfl rfl rfl ?_
            rw [w]
            exact ⟨_, rfl, rfl, hW, he0⟩
theorem ql_about {g : xm_G} {h h0 : xm_H} {c m : kS} {R : Nat → Option Nat} {A : kA} (hW : kW c R m A h) (he : h.2 = h0.2) (hB : kMb m) {r j : Nat} {w : Int32} (hr : r < 10) (hj : j < kj m) : ∀ (n : Nat) (i : Nat), i ≤ j → j < i + n → xm_S g 1 m_M_about (30, [some (.ref (A 6 0)), some (.int (nI r)), some (.int (nI j)), some (.int w), some (.int (nI (12 * r + j))), some (.int (k_art m r j i)), some (.int (nI i))], []) h (xq_i fun v h' => v = k_abt m r j w ∧ kW c R m A h' ∧ h'.2 = h0.2) := by
  intro n
  induction n with
  | zero => intros; omega
  | succ n ih =>
    intro i h1 h2
    refine xr_iload d_M_about_30 rfl ?_
    refine xr_iload_n d_M_about_32 rfl ?_
    refine xr_icmp_ge (tgt := 78) d_M_about_33 rfl (fun c33 => ?_) (fun c33 => ?_)
    · have hie : i = j := by have := k_ge_ge (by omega) c33; omega
      subst hie
      refine xr_iload_n d_M_about_78 rfl ?_
      refine xr_if_ne (tgt := 91) d_M_about_79 rfl (fun c79 => ?_) (fun c79 => ?_)
      · refine xr_iload_n d_M_about_91 rfl ?_
        refine xr_iconst (v := 1) d_M_about_92 rfl ?_
        refine xr_icmp_ne (tgt := 106) d_M_about_93 rfl (fun c93 => ?_) (fun c93 => ?_)
        · refine xr_iload_n d_M_about_106 rfl ?_
          refine xr_iconst (v := 2) d_M_about_107 rfl ?_
          refine xr_icmp_ne (tgt := 121) d_M_about_108 rfl (fun c108 => ?_) (fun c108 => ?_)
          · refine xr_iload_n d_M_about_121 rfl ?_
            refine xr_iconst (v := 3) d_M_about_122 rfl ?_
            refine xr_icmp_ne (tgt := 136) d_M_about_123 rfl (fun c123 => ?_) (fun c123 => ?_)
            · refine xr_iload_n d_M_about_136 rfl ?_
              refine xr_iconst (v := 4) d_M_about_137 rfl ?_
              refine xr_icmp_ne (tgt := 146) d_M_about_138 rfl (fun c138 => ?_) (fun c138 => ?_)
              · have w9 : k_abt m r i w = 0 := by rw [k_abt, if_neg c79, if_neg c93, if_neg c108, if_neg c123, if_neg c138]
                refine xr_iconst (v := 0) d_M_about_146 rfl ?_
                refine xr_ireturn d_M_about_147 rfl rfl rfl ?_
                exact ⟨_, rfl, w9.symm, hW, he⟩
              · have w9 : k_abt m r i w = k_art m r i i := by rw [k_abt, if_neg c79, if_neg c93, if_neg c108, if_neg c123, if_pos c138]
                refine xr_iload d_M_about_141 rfl ?_
                refine xr_goto (tgt := 147) d_M_about_143 rfl ?_
                refine xr_ireturn d_M_about_147 rfl rfl rfl ?_
                exact ⟨_, rfl, w9.symm, hW, he⟩
            · have w9 : k_abt m r i w = kF m 15 (12 * r + i) := by rw [k_abt, if_neg c79, if_neg c93, if_neg c108, if_pos c123]
              refine xr_aload_n d_M_about_126 rfl ?_
              refine xr_getf d_M_about_127 xf_5_60 hW.ref rfl ?_
              refine xr_iload d_M_about_130 rfl ?_
              refine kr_ild hW (f := 15) (by decide) rfl d_M_about_132 (n := 12 * r + i) rfl (show 12 * r + i < 120 by omega) ?_
              refine xr_goto (tgt := 147) d_M_about_133 rfl ?_
              refine xr_ireturn d_M_about_147 rfl rfl rfl ?_
              exact ⟨_, rfl, w9.symm, hW, he⟩
          · have w9 : k_abt m r i w = kF m 13 (12 * r + i) := by rw [k_abt, if_neg c79, if_neg c93, if_pos c108]
            refine xr_aload_n d_M_about_111 rfl ?_
            refine xr_getf d_M_about_112 xf_5_54 hW.ref rfl ?_
            refine xr_iload d_M_about_115 rfl ?_
            refine kr_ild hW (f := 13) (by decide) rfl d_M_about_117 (n := 12 * r + i) rfl (show 12 * r + i < 120 by omega) ?_
            refine xr_goto (tgt := 147) d_M_about_118 rfl ?_
            refine xr_ireturn d_M_about_147 rfl rfl rfl ?_
            exact ⟨_, rfl, w9.symm, hW, he⟩
        · have w9 : k_abt m r i w = kF m 11 (12 * r + i) := by rw [k_abt, if_neg c79, if_pos c93]
          refine xr_aload_n d_M_about_96 rfl ?_
          refine xr_getf d_M_about_97 xf_5_48 hW.ref rfl ?_
          refine xr_iload d_M_about_100 rfl ?_
          refine kr_ild hW (f := 11) (by decide) rfl d_M_about_102 (n := 12 * r + i) rfl (show 12 * r + i < 120 by omega) ?_
          refine xr_goto (tgt := 147) d_M_about_103 rfl ?_
          refine xr_ireturn d_M_about_147 rfl rfl rfl ?_
          exact ⟨_, rfl, w9.symm, hW, he⟩
      · have w9 : k_abt m r i w = k_rof m (12 * r + i) := if_pos c79
        refine xr_aload_n d_M_about_82 rfl ?_
        refine xr_iload d_M_about_83 rfl ?_
        refine xr_V1i d_M_about_85 xv_5_134 hW.ref rfl rfl (Nat.le_of_ble_eq_true rfl) (by decide) (q_runnerOf hW hB) (fun v h2 h9 => ?_)
        obtain ⟨rfl, e9⟩ := h9
        have e9 := e9.symm
        subst e9
        refine xr_goto (tgt := 147) d_M_about_88 rfl ?_
        refine xr_ireturn d_M_about_147 rfl rfl rfl ?_
        exact ⟨_, rfl, w9.symm, hW, he⟩
    · have hil : i < j := k_ge_lt (by omega) (by omega) c33
      have hk : k_art m r j (i + 1) = if k_bit (kF m 3 j) i then k_art m r j i ^^^ kF m 15 (12 * r + i) else k_art m r j i := rfl
      refine xr_iload d_M_about_36 rfl ?_
      refine xr_aload_n d_M_about_38 rfl ?_
      refine xr_getf d_M_about_39 xf_5_23 hW.ref rfl ?_
      refine xr_iload_n d_M_about_42 rfl ?_
      refine kr_ild hW (f := 3) (by decide) rfl d_M_about_43 (n := j) rfl (show j < 12 by omega) ?_
      refine xr_iload d_M_about_44 rfl ?_
      refine xr_ishr d_M_about_46 ?_
      refine xr_iconst (v := 1) d_M_about_47 rfl ?_
      refine xr_iand d_M_about_48 ?_
      refine xr_iconst (v := 1) d_M_about_49 rfl ?_
      refine xr_icmp_ne (tgt := 68) d_M_about_50 rfl (fun c50 => ?_) (fun c50 => ?_)
      · have hnx : k_art m r j (i + 1) = k_art m r j i ^^^ 0 := (hk.trans (if_neg (fun q => c50 (k_bit1.mpr q)))).trans (by simp)
        refine xr_iconst (v := 0) d_M_about_68 rfl ?_
        refine xr_ixor d_M_about_69 ?_
        refine xr_istore d_M_about_70 (Nat.le_of_ble_eq_true rfl) ?_
        refine xr_iinc1 d_M_about_72 rfl ?_
        refine xr_goto (tgt := 30) d_M_about_75 rfl ?_
        rw [nI_1, ← hnx]
        exact ih (i + 1) (by omega) (by omega)
      · have hnx := hk.trans (if_pos (k_bit1.mp c50))
        refine xr_aload_n d_M_about_53 rfl ?_
        refine xr_getf d_M_about_54 xf_5_60 hW.ref rfl ?_
        refine xr_bipush (v := 12) d_M_about_57 rfl ?_
        refine xr_iload_n d_M_about_59 rfl ?_
        refine xr_imul d_M_about_60 ?_
        refine xr_iload d_M_about_61 rfl ?_
        refine xr_iadd d_M_about_63 ?_
        refine kr_ild hW (f := 15) (by decide) rfl d_M_about_64 (n := 12 * r + i) kx_i (show 12 * r + i < 120 by omega) ?_
        refine xr_goto (tgt := 69) d_M_about_65 rfl ?_
        refine xr_ixor d_M_about_69 ?_
        refine xr_istore d_M_about_70 (Nat.le_of_ble_eq_true rfl) ?_
        refine xr_iinc1 d_M_about_72 rfl ?_
        refine xr_goto (tgt := 30) d_M_about_75 rfl ?_
        rw [nI_1, ← hnx]
        exact ih (i + 1) (by omega) (by omega)
theorem m_about {g : xm_G} {h : xm_H} {c m : kS} {R : Nat → Option Nat} {A : kA} (hW : kW c R m A h) (hB : kMb m) {a b w : Int32} : xm_S g 2 m_M_about (xm_entry m_M_about [.ref (A 6 0), .int a, .int b, .int w]) h (xq_i fun v h' => v = k_about m a b w ∧ kW c R m A h' ∧ h'.2 = h.2) := by
  show xm_S g 2 m_M_about (0, [some (.ref (A 6 0)), some (.int a), some (.int b), some (.int w), none, none, none], []) h _
  refine xr_aload_n d_M_about_0 rfl ?_
  refine xr_iconst (v := 0) d_M_about_1 rfl ?_
  refine kr_pm (m' := m) hW d_M_about_2 xf_5_75 (by decide) rfl rfl (fun h1 hW he0 => ?_)
  refine xr_aload_n d_M_about_5 rfl ?_
  refine xr_iload_n d_M_about_6 rfl ?_
  refine xr_iload_n d_M_about_7 rfl ?_
  refine xr_V2i d_M_about_8 xv_5_120 hW.ref rfl rfl rfl (Nat.le_of_ble_eq_true rfl) (by decide) (q_isThere hW) (fun v h2 h9 => ?_)
  obtain ⟨rfl, e9⟩ := h9
  have e9 := e9.symm
  subst e9
  refine xr_if_ne (tgt := 16) d_M_about_11 rfl (fun c11 => ?_) (fun c11 => ?_)
  · obtain ⟨hina, hinb⟩ := kbi_n0 c11
    obtain ⟨r, hr, rfl⟩ := k_in_ex (by omega) hina
    obtain ⟨j, hj, rfl⟩ := k_in_ex (by omega) hinb
    have hnr : k_n (nI r) = r := nI_clamp (by omega)
    have hnj : k_n (nI j) = j := nI_clamp (by omega)
    have w9 : k_about m (nI r) (nI j) w = k_abt m r j w := by unfold k_about; rw [if_pos ⟨hina, hinb⟩, hnr, hnj]
    refine xr_bipush (v := 12) d_M_about_16 rfl ?_
    refine xr_iload_n d_M_about_18 rfl ?_
    refine xr_imul d_M_about_19 ?_
    refine xr_iload_n d_M_about_20 rfl ?_
    refine xr_iadd d_M_about_21 ?_
    rw [kx_i]
    refine xr_istore d_M_about_22 (Nat.le_of_ble_eq_true rfl) ?_
    refine xr_iconst (v := 0) d_M_about_24 rfl ?_
    refine xr_istore d_M_about_25 (Nat.le_of_ble_eq_true rfl) ?_
    refine xr_iconst (v := 0) d_M_about_27 rfl ?_
    refine xr_istore d_M_about_28 (Nat.le_of_ble_eq_true rfl) ?_
    rw [w9]
    exact (ql_about (h0 := h) hW he0 hB (by omega) hj (j + 1) 0 (by omega) (by omega)).up (by decide)
  · have w9 : k_about m a b w = -1 := if_neg (kbi_0.mp c11)
    refine xr_iconst (v := -1) d_M_about_14 rfl ?_
    refine xr_ireturn d_M_about_15 rfl rfl rfl ?_
    exact ⟨_, rfl, w9.symm, hW, he0⟩
theorem k_done_c {s : kS} {R : Nat → Option Nat} (h : kI s R) {x u : Nat} {v : Int32} (hx : x < 2 ^ 31) (hu : u < kr s) (e : kF s 19 u = nI x) : kw (kw (kw s 9 x 3) 15 x v) 19 u (-1) = k_done s x v := by
  have hR := h.inj hx hu e
  refine kS_ext rfl rfl (fun f i => ?_)
  unfold k_done
  simp only [kw_F, k_free_F]
  by_cases a : f = 19
  · subst a
    by_cases b : i = u
    · subst b; simp [hu, e]
    · have : ¬ (i < kr s ∧ kF s 19 i = nI x) := fun q => b (Option.some.inj ((h.inj hx q.1 q.2).symm.trans hR))
      simp [b, this]
  · by_cases b : f = 15
    · subst b; simp
    · simp [a, b]
theorem m_end {g : xm_G} {h : xm_H} {c m : kS} {R : Nat → Option Nat} {A : kA} (hW : kW c R m A h) (hB : kMb m) {R0 : Nat → Option Nat} (hI : kI m R0) {a b v : Int32} : xm_S g 3 m_M_end (xm_entry m_M_end [.ref (A 6 0), .int a, .int b, .int v]) h (xq_i fun r9 h' => r9 = (o_end m a b v).2 ∧ kW c R (o_end m a b v).1 A h' ∧ h'.2 = h.2) := by
  show xm_S g 3 m_M_end (0, [some (.ref (A 6 0)), some (.int a), some (.int b), some (.int v), none], []) h _
  refine xr_aload_n d_M_end_0 rfl ?_
  refine xr_iconst (v := 0) d_M_end_1 rfl ?_
  refine kr_pm (m' := m) hW d_M_end_2 xf_5_75 (by decide) rfl rfl (fun h1 hW he0 => ?_)
  refine xr_aload_n d_M_end_5 rfl ?_
  refine xr_iload_n d_M_end_6 rfl ?_
  refine xr_V1i d_M_end_7 xv_5_124 hW.ref rfl rfl (Nat.le_of_ble_eq_true rfl) (by decide) (q_isRunner hW) (fun v h2 h9 => ?_)
  obtain ⟨rfl, e9⟩ := h9
  have e9 := e9.symm
  subst e9
  refine xr_if_eq (tgt := 23) d_M_end_10 rfl (fun c10 => ?_) (fun c10 => ?_)
  · have w : o_end m a b v = (m, 0) := if_neg (fun q => kbi_0.mp c10 q.1)
    refine xr_iconst (v := 0) d_M_end_23 rfl ?_
    refine xr_ireturn d_M_end_24 rfl rfl rfl ?_
    rw [w]
    exact ⟨_, rfl, rfl, hW, he0⟩
  · have hin := kbi_n0 c10
    obtain ⟨u, hu, rfl⟩ := k_in_ex (by omega) (kbi_n0 c10)
    have hnu : k_n (nI u) = u := nI_clamp (by omega)
    refine xr_aload_n d_M_end_13 rfl ?_
    refine xr_getf d_M_end_14 xf_5_72 hW.ref rfl ?_
    refine xr_iload_n d_M_end_17 rfl ?_
    refine kr_ild hW (f := 19) (by decide) rfl d_M_end_18 (n := u) rfl (show u < 6 by omega) ?_
    refine xr_iconst (v := -1) d_M_end_19 rfl ?_
    refine xr_icmp_ne (tgt := 25) d_M_end_20 rfl (fun c20 => ?_) (fun c20 => ?_)
    · have hx2 : ∃ x, kF m 19 u = nI x ∧ x < 120 := by
        rcases hI.2.2.1 u hu with q | ⟨x, q⟩
        · exact absurd q c20
        · exact ⟨x, (hI.2.1 x u q).2.2, hI.x120 (hI.2.1 x u q).1⟩
      obtain ⟨x, ex, hx⟩ := hx2
      have hnx : k_n (nI x) = x := nI_clamp (by omega)
      have w0 : o_end m (nI u) b v = (k_settle (if ¬ b = 0 then k_done m x v else k_fail m x), 1) := by
        unfold o_end
        rw [hnu, if_pos ⟨hin, c20⟩, ex, hnx]
      refine xr_aload_n d_M_end_25 rfl ?_
      refine xr_getf d_M_end_26 xf_5_72 hW.ref rfl ?_
      refine xr_iload_n d_M_end_29 rfl ?_
      refine kr_ild hW (f := 19) (by decide) rfl d_M_end_30 (n := u) rfl (show u < 6 by omega) ?_
      rw [ex]
      refine xr_istore d_M_end_31 (Nat.le_of_ble_eq_true rfl) ?_
      refine xr_iload_n d_M_end_33 rfl ?_
      refine xr_if_eq (tgt := 63) d_M_end_34 rfl (fun c34 => ?_) (fun c34 => ?_)
      · have w := w0.trans (by rw [if_neg (fun q => q c34)])
        refine xr_aload_n d_M_end_63 rfl ?_
        refine xr_iload d_M_end_64 rfl ?_
        refine xr_V1v d_M_end_66 xv_5_131 hW.ref rfl rfl (Nat.le_of_ble_eq_true rfl) (by decide) (q_failTry hW hB hx) (fun h9s h9 => ?_)
        obtain ⟨hW, he3⟩ := h9
        have hB2 : kMb (k_fail m x) := hB
        refine xr_aload_n d_M_end_69 rfl ?_
        refine xr_V0v d_M_end_70 xv_5_114 hW.ref rfl (Nat.le_of_ble_eq_true rfl) (by decide) (q_settle hW hB2) (fun h9s h9 => ?_)
        obtain ⟨hW, he4⟩ := h9
        refine xr_iconst (v := 1) d_M_end_73 rfl ?_
        refine xr_ireturn d_M_end_74 rfl rfl rfl ?_
        rw [w]
        exact ⟨_, rfl, rfl, hW, he4.trans (he3.trans he0)⟩
      · have w := w0.trans (by rw [if_pos c34])
        refine xr_aload_n d_M_end_37 rfl ?_
        refine xr_getf d_M_end_38 xf_5_42 hW.ref rfl ?_
        refine xr_iload d_M_end_41 rfl ?_
        refine xr_iconst (v := 3) d_M_end_43 rfl ?_
        refine kr_ist hW (f := 9) (by decide) rfl d_M_end_44 (n := x) rfl (show x < 120 from hx) (fun h9s hW he9 => ?_)
        have he1 := he9
        refine xr_aload_n d_M_end_45 rfl ?_
        refine xr_getf d_M_end_46 xf_5_60 hW.ref rfl ?_
        refine xr_iload d_M_end_49 rfl ?_
        refine xr_iload_n d_M_end_51 rfl ?_
        refine kr_ist hW (f := 15) (by decide) rfl d_M_end_52 (n := x) rfl (show x < 120 from hx) (fun h9s hW he9 => ?_)
        have he2 := he9
        refine xr_aload_n d_M_end_53 rfl ?_
        refine xr_getf d_M_end_54 xf_5_72 hW.ref rfl ?_
        refine xr_iload_n d_M_end_57 rfl ?_
        refine xr_iconst (v := -1) d_M_end_58 rfl ?_
        refine kr_ist hW (f := 19) (by decide) rfl d_M_end_59 (n := u) rfl (show u < 6 by omega) (fun h9s hW he9 => ?_)
        have he3 := he9.trans (he2.trans he1)
        rw [k_done_c hI (by omega) hu ex] at hW
        have hB2 : kMb (k_done m x v) := hB
        refine xr_goto (tgt := 69) d_M_end_60 rfl ?_
        refine xr_aload_n d_M_end_69 rfl ?_
        refine xr_V0v d_M_end_70 xv_5_114 hW.ref rfl (Nat.le_of_ble_eq_true rfl) (by decide) (q_settle hW hB2) (fun h9s h9 => ?_)
        obtain ⟨hW, he4⟩ := h9
        refine xr_iconst (v := 1) d_M_end_73 rfl ?_
        refine xr_ireturn d_M_end_74 rfl rfl rfl ?_
        rw [w]
        exact ⟨_, rfl, rfl, hW, he4.trans (he3.trans he0)⟩
    · have w : o_end m (nI u) b v = (m, 0) := by
        unfold o_end
        rw [hnu, if_neg (fun q => q.2 c20)]
      refine xr_iconst (v := 0) d_M_end_23 rfl ?_
      refine xr_ireturn d_M_end_24 rfl rfl rfl ?_
      rw [w]
      exact ⟨_, rfl, rfl, hW, he0⟩
theorem m_job {g : xm_G} {h : xm_H} {c m : kS} {R : Nat → Option Nat} {A : kA} (hW : kW c R m A h) (hB : kMb m) {l li re al ap : Int32} (g1 : al = 0 ∨ al = 1) (g2 : ap = 0 ∨ ap = 1) : xm_S g 0 m_M_job (xm_entry m_M_job [.ref (A 6 0), .int l, .int li, .int re, .int al, .int ap]) h (xq_i fun v h' => v = (o_job m l li re al ap).2 ∧ kW c R (o_job m l li re al ap).1 A h' ∧ h'.2 = h.2) := by
  show xm_S g 0 m_M_job (0, [some (.ref (A 6 0)), some (.int l), some (.int li), some (.int re), some (.int al), some (.int ap)], []) h _
  refine xr_aload_n d_M_job_0 rfl ?_
  refine xr_iconst (v := 0) d_M_job_1 rfl ?_
  refine kr_pm (m' := m) hW d_M_job_2 xf_5_75 (by decide) rfl rfl (fun h1 hW he0 => ?_)
  refine xr_aload_n d_M_job_5 rfl ?_
  refine xr_getf d_M_job_6 xf_5_78 hW.ref rfl ?_
  refine xr_bipush (v := 12) d_M_job_9 rfl ?_
  refine xr_icmp_eq (tgt := 34) d_M_job_11 rfl (fun c11 => ?_) (fun c11 => ?_)
  · have w : o_job m l li re al ap = (m, -1) := if_pos (Or.inl ((nI_eq (b := 12) (by omega) (by decide)).mp c11))
    refine xr_iconst (v := -1) d_M_job_34 rfl ?_
    refine xr_ireturn d_M_job_35 rfl rfl rfl ?_
    rw [w]
    exact ⟨_, rfl, rfl, hW, he0⟩
  · have h12 : kj m < 12 := by
      rcases Nat.lt_or_ge (kj m) 12 with q | q
      · exact q
      · exact absurd (show nI (kj m) = nI 12 by rw [show kj m = 12 by omega]) c11
    refine xr_aload_n d_M_job_14 rfl ?_
    refine xr_getf d_M_job_15 xf_5_81 hW.ref rfl ?_
    refine xr_if_gt (tgt := 34) d_M_job_18 rfl (fun c18 => ?_) (fun c18 => ?_)
    · have w : o_job m l li re al ap = (m, -1) := if_pos (Or.inr (Or.inl (fun q => by rw [q] at c18; exact absurd c18 (by decide))))
      refine xr_iconst (v := -1) d_M_job_34 rfl ?_
      refine xr_ireturn d_M_job_35 rfl rfl rfl ?_
      rw [w]
      exact ⟨_, rfl, rfl, hW, he0⟩
    · have hq0 : kq m = 0 := by
        rcases Nat.eq_zero_or_pos (kq m) with q | q
        · exact q
        · exact absurd (show (0 : Int32) < nI (kq m) from nI_lt (a := 0) q (by omega)) c18
      refine xr_iload_n d_M_job_21 rfl ?_
      refine xr_if_lt (tgt := 34) d_M_job_22 rfl (fun c22 => ?_) (fun c22 => ?_)
      · have w : o_job m l li re al ap = (m, -1) := if_pos (Or.inr (Or.inr (Or.inl c22)))
        refine xr_iconst (v := -1) d_M_job_34 rfl ?_
        refine xr_ireturn d_M_job_35 rfl rfl rfl ?_
        rw [w]
        exact ⟨_, rfl, rfl, hW, he0⟩
      · refine xr_iload_n d_M_job_25 rfl ?_
        refine xr_if_lt (tgt := 34) d_M_job_26 rfl (fun c26 => ?_) (fun c26 => ?_)
        · have w : o_job m l li re al ap = (m, -1) := if_pos (Or.inr (Or.inr (Or.inr (Or.inl c26))))
          refine xr_iconst (v := -1) d_M_job_34 rfl ?_
          refine xr_ireturn d_M_job_35 rfl rfl rfl ?_
          rw [w]
          exact ⟨_, rfl, rfl, hW, he0⟩
        · refine xr_iload_n d_M_job_29 rfl ?_
          refine xr_iconst (v := 3) d_M_job_30 rfl ?_
          refine xr_icmp_le (tgt := 36) d_M_job_31 rfl (fun c31 => ?_) (fun c31 => ?_)
          · have w : o_job m l li re al ap = (k_addJ m (l &&& 255) li re al ap, nI (kj m)) := if_neg (by
              rintro (q | q | q | q | q)
              · omega
              · exact q hq0
              · exact c22 q
              · exact c26 q
              · exact ki_nlt.mpr c31 q)
            refine xr_aload_n d_M_job_36 rfl ?_
            refine xr_getf d_M_job_37 xf_5_13 hW.ref rfl ?_
            refine xr_aload_n d_M_job_40 rfl ?_
            refine xr_getf d_M_job_41 xf_5_78 hW.ref rfl ?_
            refine xr_iload_n d_M_job_44 rfl ?_
            refine xr_sipush (v := 255) d_M_job_45 rfl ?_
            refine xr_iand d_M_job_48 ?_
            refine kr_ist hW (f := 0) (by decide) rfl d_M_job_49 (n := kj m) rfl (show kj m < 12 from h12) (fun h9s hW he9 => ?_)
            have he1 := he9
            refine xr_aload_n d_M_job_50 rfl ?_
            refine xr_getf d_M_job_51 xf_5_17 hW.ref rfl ?_
            refine xr_aload_n d_M_job_54 rfl ?_
            refine xr_getf d_M_job_55 xf_5_78 hW.ref rfl ?_
            refine xr_iload_n d_M_job_58 rfl ?_
            refine kr_ist hW (f := 1) (by decide) rfl d_M_job_59 (n := kj m) rfl (show kj m < 12 from h12) (fun h9s hW he9 => ?_)
            have he2 := he9
            refine xr_aload_n d_M_job_60 rfl ?_
            refine xr_getf d_M_job_61 xf_5_20 hW.ref rfl ?_
            refine xr_aload_n d_M_job_64 rfl ?_
            refine xr_getf d_M_job_65 xf_5_78 hW.ref rfl ?_
            refine xr_iload_n d_M_job_68 rfl ?_
            refine kr_ist hW (f := 2) (by decide) rfl d_M_job_69 (n := kj m) rfl (show kj m < 12 from h12) (fun h9s hW he9 => ?_)
            have he3 := he9
            refine xr_aload_n d_M_job_70 rfl ?_
            refine xr_getf d_M_job_71 xf_5_26 hW.ref rfl ?_
            refine xr_aload_n d_M_job_74 rfl ?_
            refine xr_getf d_M_job_75 xf_5_78 hW.ref rfl ?_
            refine xr_iload d_M_job_78 rfl ?_
            refine kr_zst hW (f := 4) (by decide) rfl d_M_job_80 (n := kj m) rfl (show kj m < 12 from h12) g1 (fun h9s hW he9 => ?_)
            have he4 := he9
            refine xr_aload_n d_M_job_81 rfl ?_
            refine xr_getf d_M_job_82 xf_5_30 hW.ref rfl ?_
            refine xr_aload_n d_M_job_85 rfl ?_
            refine xr_getf d_M_job_86 xf_5_78 hW.ref rfl ?_
            refine xr_iload d_M_job_89 rfl ?_
            refine kr_zst hW (f := 5) (by decide) rfl d_M_job_91 (n := kj m) rfl (show kj m < 12 from h12) g2 (fun h9s hW he9 => ?_)
            have he5 := he9
            refine xr_aload_n d_M_job_92 rfl ?_
            refine xr_dup d_M_job_93 rfl ?_
            refine xr_getf d_M_job_94 xf_5_78 hW.ref rfl ?_
            refine xr_iconst (v := 1) d_M_job_97 rfl ?_
            refine xr_iadd d_M_job_98 ?_
            rw [show nI (kj (kw (kw (kw (kw (kw m 0 (kj m) (l &&& 255)) 1 (kj m) li) 2 (kj m) re) 4 (kj m) al) 5 (kj m) ap)) + 1 = nI (kj m + 1) from nI_1 (kj m)]
            refine kr_pm (m' := k_addJ m (l &&& 255) li re al ap) hW d_M_job_99 xf_5_78 (by decide) rfl rfl (fun h9s hW he6 => ?_)
            refine xr_aload_n d_M_job_102 rfl ?_
            refine xr_getf d_M_job_103 xf_5_78 hW.ref rfl ?_
            refine xr_iconst (v := 1) d_M_job_106 rfl ?_
            refine xr_isub d_M_job_107 ?_
            rw [show nI (kj (k_addJ m (l &&& 255) li re al ap)) - 1 = nI (kj m) from nI_pred (kj m)]
            refine xr_ireturn d_M_job_108 rfl rfl rfl ?_
            rw [w]
            exact ⟨_, rfl, rfl, hW, he6.trans (he5.trans (he4.trans (he3.trans (he2.trans (he1.trans he0)))))⟩
          · have w : o_job m l li re al ap = (m, -1) := if_pos (Or.inr (Or.inr (Or.inr (Or.inr (ki_nle.mp c31)))))
            refine xr_iconst (v := -1) d_M_job_34 rfl ?_
            refine xr_ireturn d_M_job_35 rfl rfl rfl ?_
            rw [w]
            exact ⟨_, rfl, rfl, hW, he0⟩
theorem m_runner {g : xm_G} {h : xm_H} {c m : kS} {R : Nat → Option Nat} {A : kA} (hW : kW c R m A h) (hB : kMb m) {l : Int32} : xm_S g 0 m_M_runner (xm_entry m_M_runner [.ref (A 6 0), .int l]) h (xq_i fun v h' => v = (o_runner m l).2 ∧ kW c R (o_runner m l).1 A h' ∧ h'.2 = h.2) := by
  show xm_S g 0 m_M_runner (0, [some (.ref (A 6 0)), some (.int l)], []) h _
  refine xr_aload_n d_M_runner_0 rfl ?_
  refine xr_iconst (v := 0) d_M_runner_1 rfl ?_
  refine kr_pm (m' := m) hW d_M_runner_2 xf_5_75 (by decide) rfl rfl (fun h1 hW he0 => ?_)
  refine xr_aload_n d_M_runner_5 rfl ?_
  refine xr_getf d_M_runner_6 xf_5_84 hW.ref rfl ?_
  refine xr_bipush (v := 6) d_M_runner_9 rfl ?_
  refine xr_icmp_ne (tgt := 16) d_M_runner_11 rfl (fun c11 => ?_) (fun c11 => ?_)
  · have h6 : kr m < 6 := by
      rcases Nat.lt_or_ge (kr m) 6 with q | q
      · exact q
      · exact absurd (show nI (kr m) = nI 6 by rw [show kr m = 6 by omega]) c11
    have w : o_runner m l = (k_addU m (l &&& 255), nI (kr m)) := if_neg (by omega)
    refine xr_aload_n d_M_runner_16 rfl ?_
    refine xr_getf d_M_runner_17 xf_5_66 hW.ref rfl ?_
    refine xr_aload_n d_M_runner_20 rfl ?_
    refine xr_getf d_M_runner_21 xf_5_84 hW.ref rfl ?_
    refine xr_iload_n d_M_runner_24 rfl ?_
    refine xr_sipush (v := 255) d_M_runner_25 rfl ?_
    refine xr_iand d_M_runner_28 ?_
    refine kr_ist hW (f := 17) (by decide) rfl d_M_runner_29 (n := kr m) rfl (show kr m < 6 from h6) (fun h9s hW he9 => ?_)
    have he1 := he9
    refine xr_aload_n d_M_runner_30 rfl ?_
    refine xr_getf d_M_runner_31 xf_5_69 hW.ref rfl ?_
    refine xr_aload_n d_M_runner_34 rfl ?_
    refine xr_getf d_M_runner_35 xf_5_84 hW.ref rfl ?_
    refine xr_aload_n d_M_runner_38 rfl ?_
    refine xr_getf d_M_runner_39 xf_5_91 hW.ref rfl ?_
    refine kr_ist hW (f := 18) (by decide) rfl d_M_runner_42 (n := kr m) rfl (show kr m < 6 from h6) (fun h9s hW he9 => ?_)
    have he2 := he9
    refine xr_aload_n d_M_runner_43 rfl ?_
    refine xr_getf d_M_runner_44 xf_5_72 hW.ref rfl ?_
    refine xr_aload_n d_M_runner_47 rfl ?_
    refine xr_getf d_M_runner_48 xf_5_84 hW.ref rfl ?_
    refine xr_iconst (v := -1) d_M_runner_51 rfl ?_
    refine kr_ist hW (f := 19) (by decide) rfl d_M_runner_52 (n := kr m) rfl (show kr m < 6 from h6) (fun h9s hW he9 => ?_)
    have he3 := he9
    refine xr_aload_n d_M_runner_53 rfl ?_
    refine xr_dup d_M_runner_54 rfl ?_
    refine xr_getf d_M_runner_55 xf_5_84 hW.ref rfl ?_
    refine xr_iconst (v := 1) d_M_runner_58 rfl ?_
    refine xr_iadd d_M_runner_59 ?_
    rw [show nI (kr (kw (kw (kw m 17 (kr m) (l &&& 255)) 18 (kr m) (kc (kw m 17 (kr m) (l &&& 255)))) 19 (kr m) (-1))) + 1 = nI (kr m + 1) from nI_1 (kr m)]
    refine kr_pm (m' := k_addU m (l &&& 255)) hW d_M_runner_60 xf_5_84 (by decide) rfl rfl (fun h9s hW he4 => ?_)
    refine xr_aload_n d_M_runner_63 rfl ?_
    refine xr_getf d_M_runner_64 xf_5_84 hW.ref rfl ?_
    refine xr_iconst (v := 1) d_M_runner_67 rfl ?_
    refine xr_isub d_M_runner_68 ?_
    rw [show nI (kr (k_addU m (l &&& 255))) - 1 = nI (kr m) from nI_pred (kr m)]
    refine xr_ireturn d_M_runner_69 rfl rfl rfl ?_
    rw [w]
    exact ⟨_, rfl, rfl, hW, he4.trans (he3.trans (he2.trans (he1.trans he0)))⟩
  · have w : o_runner m l = (m, -1) := if_pos ((nI_eq (b := 6) (by omega) (by decide)).mp c11)
    refine xr_iconst (v := -1) d_M_runner_14 rfl ?_
    refine xr_ireturn d_M_runner_15 rfl rfl rfl ?_
    rw [w]
    exact ⟨_, rfl, rfl, hW, he0⟩
theorem k_settle_kq (s : kS) : kq (k_settle s) = kq s := by
  unfold k_settle
  exact k_settleN_kq _ _
def k_tgN (s : kS) (g : Int32) (r : Nat) : kS := if g = -1 then s else k_grpN s g r
theorem k_tgN_1 (s : kS) (g : Int32) (r : Nat) : (k_tgN s g r).1 = s.1 := by
  unfold k_tgN
  split
  · rfl
  · exact k_grpN_1 s g r
theorem ql_trigger {g : xm_G} {h0 : xm_H} {c m : kS} {R : Nat → Option Nat} {A : kA} (hB : kMb m) {p q : Int32} (h10 : kq m < 10) : ∀ (n : Nat) (r : Nat) (h : xm_H), kW c R (k_tgN m q r) A h → h.2 = h0.2 → r ≤ kq m → kq m < r + n → xm_S g 3 m_M_trigger (38, [some (.ref (A 6 0)), some (.int p), some (.int q), some (.int (nI r))], []) h (xq_i fun v h' => v = nI (kq m) ∧ kW c R (k_settle (k_addQ (k_grp m q) p q)) A h' ∧ h'.2 = h0.2) := by
  intro n
  induction n with
  | zero => intros; omega
  | succ n ih =>
    intro r h hW he h1 h2
    have e1 := k_tgN_1 m q r
    have hk1 : q = -1 → k_tgN m q (r + 1) = k_tgN m q r := fun z => by unfold k_tgN; rw [if_pos z, if_pos z]
    have hk2 : ¬ q = -1 → k_tgN m q (r + 1) = k_grp1 (k_tgN m q r) q r := fun z => by unfold k_tgN; rw [if_neg z, if_neg z]; rfl
    have hend : k_tgN m q (kq m) = k_grp m q := rfl
    generalize hC : k_tgN m q r = C at *
    have hkq : kq C = kq m := congrArg (fun z => z.2.2) e1
    have hBC : kMb C := by unfold kMb kj kr kq at *; rw [e1]; exact hB
    rw [← hkq] at h1 h2 h10
    refine xr_iload_n d_M_trigger_38 rfl ?_
    refine xr_aload_n d_M_trigger_39 rfl ?_
    refine xr_getf d_M_trigger_40 xf_5_81 hW.ref rfl ?_
    refine xr_icmp_ge (tgt := 80) d_M_trigger_43 rfl (fun c43 => ?_) (fun c43 => ?_)
    · have hre : r = kq C := by have := k_ge_ge (by omega) c43; omega
      have hCe : k_grp m q = C := by rw [← hend, ← hC, ← hkq, hre]
      refine xr_aload_n d_M_trigger_80 rfl ?_
      refine xr_getf d_M_trigger_81 xf_5_33 hW.ref rfl ?_
      refine xr_aload_n d_M_trigger_84 rfl ?_
      refine xr_getf d_M_trigger_85 xf_5_81 hW.ref rfl ?_
      refine xr_iload_n d_M_trigger_88 rfl ?_
      refine kr_ist hW (f := 6) (by decide) rfl d_M_trigger_89 (n := kq C) rfl (show kq C < 10 by omega) (fun h9s hW he9 => ?_)
      have he := he9.trans he
      refine xr_aload_n d_M_trigger_90 rfl ?_
      refine xr_getf d_M_trigger_91 xf_5_36 hW.ref rfl ?_
      refine xr_aload_n d_M_trigger_94 rfl ?_
      refine xr_getf d_M_trigger_95 xf_5_81 hW.ref rfl ?_
      refine xr_iload_n d_M_trigger_98 rfl ?_
      refine kr_ist hW (f := 7) (by decide) rfl d_M_trigger_99 (n := kq C) rfl (show kq C < 10 by omega) (fun h9s hW he9 => ?_)
      have he := he9.trans he
      refine xr_aload_n d_M_trigger_100 rfl ?_
      refine xr_dup d_M_trigger_101 rfl ?_
      refine xr_getf d_M_trigger_102 xf_5_81 hW.ref rfl ?_
      refine xr_iconst (v := 1) d_M_trigger_105 rfl ?_
      refine xr_iadd d_M_trigger_106 ?_
      rw [show nI (kq (kw (kw C 6 (kq C) p) 7 (kq C) q)) + 1 = nI (kq C + 1) from nI_1 (kq C)]
      refine kr_pm (m' := k_addQ C p q) hW d_M_trigger_107 xf_5_81 (by decide) rfl rfl (fun h9s hW he6 => ?_)
      have he := he6.trans he
      have hB2 : kMb (k_addQ C p q) := ⟨hBC.1, hBC.2.1, by show kq C + 1 ≤ 10; omega⟩
      refine xr_aload_n d_M_trigger_110 rfl ?_
      refine xr_V0v d_M_trigger_111 xv_5_114 hW.ref rfl (Nat.le_of_ble_eq_true rfl) (by decide) (q_settle hW hB2) (fun h9s h9 => ?_)
      obtain ⟨hW, he7⟩ := h9
      have ek : kq (k_settle (k_addQ C p q)) = kq C + 1 := k_settle_kq _
      refine xr_aload_n d_M_trigger_114 rfl ?_
      refine xr_getf d_M_trigger_115 xf_5_81 hW.ref rfl ?_
      refine xr_iconst (v := 1) d_M_trigger_118 rfl ?_
      refine xr_isub d_M_trigger_119 ?_
      rw [ek, nI_pred]
      refine xr_ireturn d_M_trigger_120 rfl rfl rfl ?_
      refine ⟨_, rfl, ?_, ?_, he7.trans he⟩
      · rw [hkq]
      · rw [hCe]; exact hW
    · have hr : r < kq C := k_ge_lt (by omega) (by omega) c43
      refine xr_iload_n d_M_trigger_46 rfl ?_
      refine xr_iconst (v := -1) d_M_trigger_47 rfl ?_
      refine xr_icmp_eq (tgt := 74) d_M_trigger_48 rfl (fun c48 => ?_) (fun c48 => ?_)
      · have hnx : k_tgN m q (r + 1) = C := hk1 c48
        refine xr_iinc1 d_M_trigger_74 rfl ?_
        refine xr_goto (tgt := 38) d_M_trigger_77 rfl ?_
        rw [nI_1]
        exact ih (r + 1) _ (by rw [hnx]; exact hW) he (by omega) (by omega)
      · refine xr_aload_n d_M_trigger_51 rfl ?_
        refine xr_getf d_M_trigger_52 xf_5_36 hW.ref rfl ?_
        refine xr_iload_n d_M_trigger_55 rfl ?_
        refine kr_ild hW (f := 7) (by decide) rfl d_M_trigger_56 (n := r) rfl (show r < 10 by omega) ?_
        refine xr_iload_n d_M_trigger_57 rfl ?_
        refine xr_icmp_ne (tgt := 74) d_M_trigger_58 rfl (fun c58 => ?_) (fun c58 => ?_)
        · have hnx : k_tgN m q (r + 1) = C := (hk2 c48).trans (if_neg (fun z => c58 z.1))
          refine xr_iinc1 d_M_trigger_74 rfl ?_
          refine xr_goto (tgt := 38) d_M_trigger_77 rfl ?_
          rw [nI_1]
          exact ih (r + 1) _ (by rw [hnx]; exact hW) he (by omega) (by omega)
        · refine xr_aload_n d_M_trigger_61 rfl ?_
          refine xr_iload_n d_M_trigger_62 rfl ?_
          refine xr_V1i d_M_trigger_63 xv_5_108 hW.ref rfl rfl (Nat.le_of_ble_eq_true rfl) (by decide) (q_isOver hW hBC (r := r) (by omega)) (fun v h2 h9 => ?_)
          obtain ⟨rfl, e9⟩ := h9
          have e9 := e9.symm
          subst e9
          refine xr_if_ne (tgt := 74) d_M_trigger_66 rfl (fun c66 => ?_) (fun c66 => ?_)
          · have hnx : k_tgN m q (r + 1) = C := (hk2 c48).trans (if_neg (fun z => z.2 (kbi_n0 c66)))
            refine xr_iinc1 d_M_trigger_74 rfl ?_
            refine xr_goto (tgt := 38) d_M_trigger_77 rfl ?_
            rw [nI_1]
            exact ih (r + 1) _ (by rw [hnx]; exact hW) he (by omega) (by omega)
          · have hnx : k_tgN m q (r + 1) = k_stop C r := (hk2 c48).trans (if_pos ⟨c58, kbi_0.mp c66⟩)
            refine xr_aload_n d_M_trigger_69 rfl ?_
            refine xr_iload_n d_M_trigger_70 rfl ?_
            refine xr_V1v d_M_trigger_71 xv_5_111 hW.ref rfl rfl (Nat.le_of_ble_eq_true rfl) (by decide) (q_stop hW hBC (r := r) (by omega)) (fun h9s h9 => ?_)
            obtain ⟨hW, he1⟩ := h9
            have he := he1.trans he
            refine xr_iinc1 d_M_trigger_74 rfl ?_
            refine xr_goto (tgt := 38) d_M_trigger_77 rfl ?_
            rw [nI_1]
            exact ih (r + 1) _ (by rw [hnx]; exact hW) he (by omega) (by omega)
theorem m_trigger {g : xm_G} {h : xm_H} {c m : kS} {R : Nat → Option Nat} {A : kA} (hW : kW c R m A h) (hB : kMb m) {p q : Int32} : xm_S g 3 m_M_trigger (xm_entry m_M_trigger [.ref (A 6 0), .int p, .int q]) h (xq_i fun v h' => v = (o_trig m p q).2 ∧ kW c R (o_trig m p q).1 A h' ∧ h'.2 = h.2) := by
  show xm_S g 3 m_M_trigger (0, [some (.ref (A 6 0)), some (.int p), some (.int q), none], []) h _
  refine xr_aload_n d_M_trigger_0 rfl ?_
  refine xr_iconst (v := 0) d_M_trigger_1 rfl ?_
  refine kr_pm (m' := m) hW d_M_trigger_2 xf_5_75 (by decide) rfl rfl (fun h1 hW he0 => ?_)
  refine xr_aload_n d_M_trigger_5 rfl ?_
  refine xr_getf d_M_trigger_6 xf_5_81 hW.ref rfl ?_
  refine xr_bipush (v := 10) d_M_trigger_9 rfl ?_
  refine xr_icmp_eq (tgt := 34) d_M_trigger_11 rfl (fun c11 => ?_) (fun c11 => ?_)
  · have w : o_trig m p q = (m, -1) := if_pos (Or.inl ((nI_eq (b := 10) (by omega) (by decide)).mp c11))
    refine xr_iconst (v := -1) d_M_trigger_34 rfl ?_
    refine xr_ireturn d_M_trigger_35 rfl rfl rfl ?_
    rw [w]
    exact ⟨_, rfl, rfl, hW, he0⟩
  · have h10 : kq m < 10 := by
      rcases Nat.lt_or_ge (kq m) 10 with z | z
      · exact z
      · exact absurd (show nI (kq m) = nI 10 by rw [show kq m = 10 by omega]) c11
    refine xr_iload_n d_M_trigger_14 rfl ?_
    refine xr_if_lt (tgt := 34) d_M_trigger_15 rfl (fun c15 => ?_) (fun c15 => ?_)
    · have w : o_trig m p q = (m, -1) := if_pos (Or.inr (Or.inl (fun z => z.1 c15)))
      refine xr_iconst (v := -1) d_M_trigger_34 rfl ?_
      refine xr_ireturn d_M_trigger_35 rfl rfl rfl ?_
      rw [w]
      exact ⟨_, rfl, rfl, hW, he0⟩
    · refine xr_iload_n d_M_trigger_18 rfl ?_
      refine xr_bipush (v := 8) d_M_trigger_19 rfl ?_
      refine xr_icmp_ge (tgt := 34) d_M_trigger_21 rfl (fun c21 => ?_) (fun c21 => ?_)
      · have w : o_trig m p q = (m, -1) := if_pos (Or.inr (Or.inl (fun z => z.2 c21)))
        refine xr_iconst (v := -1) d_M_trigger_34 rfl ?_
        refine xr_ireturn d_M_trigger_35 rfl rfl rfl ?_
        rw [w]
        exact ⟨_, rfl, rfl, hW, he0⟩
      · refine xr_iload_n d_M_trigger_24 rfl ?_
        refine xr_iconst (v := -1) d_M_trigger_25 rfl ?_
        refine xr_icmp_lt (tgt := 34) d_M_trigger_26 rfl (fun c26 => ?_) (fun c26 => ?_)
        · have w : o_trig m p q = (m, -1) := if_pos (Or.inr (Or.inr (Or.inl c26)))
          refine xr_iconst (v := -1) d_M_trigger_34 rfl ?_
          refine xr_ireturn d_M_trigger_35 rfl rfl rfl ?_
          rw [w]
          exact ⟨_, rfl, rfl, hW, he0⟩
        · refine xr_iload_n d_M_trigger_29 rfl ?_
          refine xr_iconst (v := 4) d_M_trigger_30 rfl ?_
          refine xr_icmp_lt (tgt := 36) d_M_trigger_31 rfl (fun c31 => ?_) (fun c31 => ?_)
          · have w : o_trig m p q = (k_settle (k_addQ (k_grp m q) p q), nI (kq m)) := if_neg (by
              rintro (z | z | z | z)
              · omega
              · exact z ⟨c15, c21⟩
              · exact c26 z
              · exact ki_nle.mpr c31 z)
            refine xr_iconst (v := 0) d_M_trigger_36 rfl ?_
            refine xr_istore_n d_M_trigger_37 (Nat.le_of_ble_eq_true rfl) ?_
            rw [w]
            dsimp only
            exact ql_trigger (h0 := h) hB h10 (kq m + 1) 0 h1 (by unfold k_tgN; split <;> exact hW) he0 (by omega) (by omega)
          · have w : o_trig m p q = (m, -1) := if_pos (Or.inr (Or.inr (Or.inr (ki_nlt.mp c31))))
            refine xr_iconst (v := -1) d_M_trigger_34 rfl ?_
            refine xr_ireturn d_M_trigger_35 rfl rfl rfl ?_
            rw [w]
            exact ⟨_, rfl, rfl, hW, he0⟩
end
section
/-! the class's take and tick -/
theorem l_running {g : xm_G} {h : xm_H} {c m : kS} {R : Nat → Option Nat} {A : kA} (hW : kW c R m A h) (hI : kI c R) {p : Int32} : ∀ (n : Nat) (u : Nat) (x4 : Option Value), u ≤ kr c → kr c < u + n → xm_S g 0 m_S_runningOf (4, [some (.ref (A 0 0)), some (.int p), some (.int (nI (k_runsN c p u))), some (.int (nI u)), x4], []) h (xq_i fun v h' => v = nI (k_runsN c p (kr c)) ∧ h' = h) := by
  intro n
  induction n with
  | zero => intros; omega
  | succ n ih =>
    intro u x4 h1 h2
    have hb := hI.1
    refine xr_iload_n d_S_runningOf_4 rfl ?_
    refine xr_aload_n d_S_runningOf_5 rfl ?_
    refine xr_getf d_S_runningOf_6 xf_4_31 hW.this rfl ?_
    refine xr_icmp_ge (tgt := 49) d_S_runningOf_9 rfl (fun c9 => ?_) (fun c9 => ?_)
    · have hre : u = kr c := by have := k_ge_ge (by omega) c9; omega
      refine xr_iload_n d_S_runningOf_49 rfl ?_
      refine xr_ireturn d_S_runningOf_50 rfl rfl rfl ?_
      exact ⟨_, rfl, by rw [hre], rfl⟩
    · have hu : u < kr c := k_ge_lt (by omega) (by omega) c9
      refine xr_aload_n d_S_runningOf_12 rfl ?_
      refine xr_getf d_S_runningOf_13 xf_4_17 hW.this rfl ?_
      refine xr_iload_n d_S_runningOf_16 rfl ?_
      refine kr_rnrs (u := u) hW d_S_runningOf_17 rfl hu ?_
      rcases hI.2.2.1 u hu with e | ⟨x, eR⟩
      · have hst : nI (k_runsN c p u) = nI (k_runsN c p (u + 1)) := by rw [k_runsN_s, k_b1_f (fun q => q.1 e)]; rfl
        refine xr_getf d_S_runningOf_18 xf_4_102 (hW.rnrN hu e) rfl ?_
        refine xr_astoreN d_S_runningOf_21 (Nat.le_of_ble_eq_true rfl) ?_
        refine xr_aloadN d_S_runningOf_23 rfl ?_
        refine xr_ifnullN (tgt := 43) d_S_runningOf_25 rfl ?_
        refine xr_iinc1 d_S_runningOf_43 rfl ?_
        refine xr_goto (tgt := 4) d_S_runningOf_46 rfl ?_
        rw [nI_1 u, hst]
        exact ih (u + 1) _ (by omega) (by omega)
      · obtain ⟨hx, -, e⟩ := hI.2.1 x u eR
        have hxx := hx
        unfold k_ok at hx
        have hx2 : x < 2 ^ 31 := by have := hI.x120 hx; omega
        have hnx : k_n (nI x) = x := nI_clamp hx2
        refine xr_getf d_S_runningOf_18 xf_4_102 (hW.rnrS hu hx2 e) rfl ?_
        refine xr_astore d_S_runningOf_21 (Nat.le_of_ble_eq_true rfl) ?_
        refine xr_aload d_S_runningOf_23 rfl ?_
        refine xr_ifnull d_S_runningOf_25 ?_
        refine xr_aload d_S_runningOf_28 rfl ?_
        refine xr_getf d_S_runningOf_30 xf_4_88 (hW.tsk hx) rfl ?_
        refine xr_getf d_S_runningOf_33 xf_4_92 (hW.run (by omega)) rfl ?_
        refine xr_iload_n d_S_runningOf_36 rfl ?_
        refine xr_icmp_ne (tgt := 43) d_S_runningOf_37 rfl (fun c37 => ?_) (fun c37 => ?_)
        · have hst : nI (k_runsN c p u) = nI (k_runsN c p (u + 1)) := by rw [k_runsN_s, k_b1_f (fun q => c37 (by have z := q.2; rw [e, hnx] at z; exact z))]; rfl
          refine xr_iinc1 d_S_runningOf_43 rfl ?_
          refine xr_goto (tgt := 4) d_S_runningOf_46 rfl ?_
          rw [nI_1 u, hst]
          exact ih (u + 1) _ (by omega) (by omega)
        · have hst : nI (k_runsN c p u) + 1 = nI (k_runsN c p (u + 1)) := by
            rw [k_runsN_s, show k_b1 (¬ kF c 19 u = -1 ∧ kF c 6 (k_n (kF c 19 u) / 12) = p) = 1 from if_pos ⟨by rw [e]; exact nI_ne hx2, by rw [e, hnx]; exact c37⟩, nI_1]
          refine xr_iinc1 d_S_runningOf_40 rfl ?_
          refine xr_iinc1 d_S_runningOf_43 rfl ?_
          refine xr_goto (tgt := 4) d_S_runningOf_46 rfl ?_
          rw [nI_1 u, hst]
          exact ih (u + 1) _ (by omega) (by omega)
theorem s_running {g : xm_G} {h : xm_H} {c m : kS} {R : Nat → Option Nat} {A : kA} (hW : kW c R m A h) (hI : kI c R) {p : Int32} : xm_S g 0 m_S_runningOf (xm_entry m_S_runningOf [.ref (A 0 0), .int p]) h (xq_i fun v h' => v = nI (k_busy c p) ∧ h' = h) := by
  show xm_S g 0 m_S_runningOf (0, [some (.ref (A 0 0)), some (.int p), none, none, none], []) h _
  refine xr_iconst (v := 0) d_S_runningOf_0 rfl ?_
  refine xr_istore_n d_S_runningOf_1 (Nat.le_of_ble_eq_true rfl) ?_
  refine xr_iconst (v := 0) d_S_runningOf_2 rfl ?_
  refine xr_istore_n d_S_runningOf_3 (Nat.le_of_ble_eq_true rfl) ?_
  rw [← hI.busy p]
  exact l_running hW hI (kr c + 1) 0 none (by omega) (by omega)
theorem s_served {g : xm_G} {h : xm_H} {c m : kS} {R : Nat → Option Nat} {A : kA} (hW : kW c R m A h) (hI : kI c R) {p q : Int32} : xm_S g 1 m_S_isServedBefore (xm_entry m_S_isServedBefore [.ref (A 0 0), .int p, .int q]) h (xq_i fun v h' => v = kbi (k_pre c p q) ∧ h' = h) := by
  show xm_S g 1 m_S_isServedBefore (0, [some (.ref (A 0 0)), some (.int p), some (.int q), none, none], []) h _
  refine xr_aload_n d_S_isServedBefore_0 rfl ?_
  refine xr_iload_n d_S_isServedBefore_1 rfl ?_
  refine xr_V1i d_S_isServedBefore_2 xv_4_194 hW.this rfl rfl (Nat.le_of_ble_eq_true rfl) (by decide) (s_running hW hI) (fun v h1 h9 => ?_)
  obtain ⟨rfl, e9⟩ := h9
  have e9 := e9.symm
  subst e9
  refine xr_istore_n d_S_isServedBefore_5 (Nat.le_of_ble_eq_true rfl) ?_
  refine xr_aload_n d_S_isServedBefore_6 rfl ?_
  refine xr_iload_n d_S_isServedBefore_7 rfl ?_
  refine xr_V1i d_S_isServedBefore_8 xv_4_194 hW.this rfl rfl (Nat.le_of_ble_eq_true rfl) (by decide) (s_running hW hI) (fun v h1 h9 => ?_)
  obtain ⟨rfl, e9⟩ := h9
  have e9 := e9.symm
  subst e9
  have hb := hI.1
  have hp : k_busy c p ≤ 12 * kq c := k_busyN_le c p _
  have hq : k_busy c q ≤ 12 * kq c := k_busyN_le c q _
  refine xr_istore d_S_isServedBefore_11 (Nat.le_of_ble_eq_true rfl) ?_
  refine xr_iload_n d_S_isServedBefore_13 rfl ?_
  refine xr_iload d_S_isServedBefore_14 rfl ?_
  refine xr_icmp_lt (tgt := 30) d_S_isServedBefore_16 rfl (fun c16 => ?_) (fun c16 => ?_)
  · have w : kbi (k_pre c p q) = 1 := kbi_t (Or.inl (k_ge_lt (by omega) (by omega) (ki_nle.mpr c16)))
    refine xr_iconst (v := 1) d_S_isServedBefore_30 rfl ?_
    refine xr_goto (tgt := 35) d_S_isServedBefore_31 rfl ?_
    refine xr_ireturn d_S_isServedBefore_35 rfl rfl rfl ?_
    exact ⟨_, rfl, w.symm, rfl⟩
  · have hge : k_busy c q ≤ k_busy c p := k_ge_ge (by omega) (ki_nlt.mp c16)
    refine xr_iload_n d_S_isServedBefore_19 rfl ?_
    refine xr_iload d_S_isServedBefore_20 rfl ?_
    refine xr_icmp_ne (tgt := 34) d_S_isServedBefore_22 rfl (fun c22 => ?_) (fun c22 => ?_)
    · have w : kbi (k_pre c p q) = 0 := kbi_f (fun z => z.elim (fun y => by omega) (fun y => c22 (by rw [y.1])))
      refine xr_iconst (v := 0) d_S_isServedBefore_34 rfl ?_
      refine xr_ireturn d_S_isServedBefore_35 rfl rfl rfl ?_
      exact ⟨_, rfl, w.symm, rfl⟩
    · have heq : k_busy c p = k_busy c q := (nI_eq (by omega) (by omega)).mp c22
      refine xr_iload_n d_S_isServedBefore_25 rfl ?_
      refine xr_iload_n d_S_isServedBefore_26 rfl ?_
      refine xr_icmp_ge (tgt := 34) d_S_isServedBefore_27 rfl (fun c27 => ?_) (fun c27 => ?_)
      · have w : kbi (k_pre c p q) = 0 := kbi_f (fun z => z.elim (fun y => by omega) (fun y => ki_nlt.mpr c27 y.2))
        refine xr_iconst (v := 0) d_S_isServedBefore_34 rfl ?_
        refine xr_ireturn d_S_isServedBefore_35 rfl rfl rfl ?_
        exact ⟨_, rfl, w.symm, rfl⟩
      · have w : kbi (k_pre c p q) = 1 := kbi_t (Or.inr ⟨heq, ki_nle.mp c27⟩)
        refine xr_iconst (v := 1) d_S_isServedBefore_30 rfl ?_
        refine xr_goto (tgt := 35) d_S_isServedBefore_31 rfl ?_
        refine xr_ireturn d_S_isServedBefore_35 rfl rfl rfl ?_
        exact ⟨_, rfl, w.symm, rfl⟩
theorem l_next {g : xm_G} {h : xm_H} {c m : kS} {R : Nat → Option Nat} {A : kA} (hW : kW c R m A h) (hI : kI c R) {u : Nat} (hu : u < kr c) : ∀ (n : Nat) (r : Nat) (x4 : Option Value), r ≤ kq c → kq c < r + n → xm_S g 2 m_S_nextFor (4, [some (.ref (A 0 0)), some (.ref (A 2 u)), some (va_rf ((k_bestN c u (12 * r)).map (A 5))), some (.int (nI r)), x4], []) h (xq_r fun o h' => h' = h ∧ o = (k_best c u).map (A 5)) := by
  intro n
  induction n with
  | zero => intros; omega
  | succ n ih =>
    intro r x4 h1 h2
    have hb := hI.1
    rcases hB : k_bestN c u (12 * r) with _ | b
    · show xm_S g 2 m_S_nextFor (4, [some (.ref (A 0 0)), some (.ref (A 2 u)), some .null, some (.int (nI r)), x4], []) h _
      refine xr_iload_n d_S_nextFor_4 rfl ?_
      refine xr_aload_n d_S_nextFor_5 rfl ?_
      refine xr_getf d_S_nextFor_6 xf_4_34 hW.this rfl ?_
      refine xr_icmp_ge (tgt := 64) d_S_nextFor_9 rfl (fun c9 => ?_) (fun c9 => ?_)
      · have hre : r = kq c := by have := k_ge_ge (by omega) c9; omega
        refine xr_aload_nN d_S_nextFor_64 rfl ?_
        refine xr_areturn (v := none) d_S_nextFor_65 rfl rfl ?_
        refine ⟨_, rfl, rfl, ?_⟩
        show none = _
        rw [show k_best c u = none from by unfold k_best; rw [← hre]; exact hB]
        rfl
      · have hr : r < kq c := k_ge_lt (by omega) (by omega) c9
        refine xr_aload_n d_S_nextFor_12 rfl ?_
        refine xr_getf d_S_nextFor_13 xf_4_23 hW.this rfl ?_
        refine xr_iload_n d_S_nextFor_16 rfl ?_
        refine kr_runs (r := r) hW d_S_nextFor_17 rfl hr ?_
        refine xr_aload_n d_S_nextFor_18 rfl ?_
        refine xr_V1r d_S_nextFor_19 xv_4_187 (hW.run hr) rfl rfl (Nat.le_of_ble_eq_true rfl) (by decide) (s_first hW hr hu) (fun o h1 h9 => ?_)
        obtain ⟨e9, h9⟩ := h9
        have e9 := e9.symm
        subst e9
        rcases h9 with ⟨rfl, hno⟩ | ⟨j, hj, rfl, hf, hnf⟩
        · have hst := (hI.bestR hno).trans hB
          refine xr_astoreN d_S_nextFor_22 (Nat.le_of_ble_eq_true rfl) ?_
          refine xr_aloadN d_S_nextFor_24 rfl ?_
          refine xr_ifnullN (tgt := 58) d_S_nextFor_26 rfl ?_
          refine xr_iinc1 d_S_nextFor_58 rfl ?_
          refine xr_goto (tgt := 4) d_S_nextFor_61 rfl ?_
          rw [nI_1]
          have z := fun y => ih (r + 1) y (by omega) (by omega)
          simp only [hst] at z
          exact z _
        · have hx := k_okx hW hr hj
          have hbe := k_bestS (by omega) hf hnf
          rw [hB] at hbe
          refine xr_astore d_S_nextFor_22 (Nat.le_of_ble_eq_true rfl) ?_
          refine xr_aload d_S_nextFor_24 rfl ?_
          refine xr_ifnull d_S_nextFor_26 ?_
          refine xr_aload_nN d_S_nextFor_29 rfl ?_
          refine xr_ifnullN (tgt := 55) d_S_nextFor_30 rfl ?_
          refine xr_aload d_S_nextFor_55 rfl ?_
          refine xr_astore_n d_S_nextFor_57 (Nat.le_of_ble_eq_true rfl) ?_
          have hst := hbe
          refine xr_iinc1 d_S_nextFor_58 rfl ?_
          refine xr_goto (tgt := 4) d_S_nextFor_61 rfl ?_
          rw [nI_1]
          have z := fun y => ih (r + 1) y (by omega) (by omega)
          simp only [hst] at z
          exact z _
    · have hxb : b < 12 * kq c ∧ b % 12 < kj c := hI.okfit (k_best_sp _ b hB).2
      show xm_S g 2 m_S_nextFor (4, [some (.ref (A 0 0)), some (.ref (A 2 u)), some (.ref (A 5 b)), some (.int (nI r)), x4], []) h _
      refine xr_iload_n d_S_nextFor_4 rfl ?_
      refine xr_aload_n d_S_nextFor_5 rfl ?_
      refine xr_getf d_S_nextFor_6 xf_4_34 hW.this rfl ?_
      refine xr_icmp_ge (tgt := 64) d_S_nextFor_9 rfl (fun c9 => ?_) (fun c9 => ?_)
      · have hre : r = kq c := by have := k_ge_ge (by omega) c9; omega
        refine xr_aload_n d_S_nextFor_64 rfl ?_
        refine xr_areturn (v := some (A 5 b)) d_S_nextFor_65 rfl rfl ?_
        refine ⟨_, rfl, rfl, ?_⟩
        show some (A 5 b) = _
        rw [show k_best c u = some b from by unfold k_best; rw [← hre]; exact hB]
        rfl
      · have hr : r < kq c := k_ge_lt (by omega) (by omega) c9
        refine xr_aload_n d_S_nextFor_12 rfl ?_
        refine xr_getf d_S_nextFor_13 xf_4_23 hW.this rfl ?_
        refine xr_iload_n d_S_nextFor_16 rfl ?_
        refine kr_runs (r := r) hW d_S_nextFor_17 rfl hr ?_
        refine xr_aload_n d_S_nextFor_18 rfl ?_
        refine xr_V1r d_S_nextFor_19 xv_4_187 (hW.run hr) rfl rfl (Nat.le_of_ble_eq_true rfl) (by decide) (s_first hW hr hu) (fun o h1 h9 => ?_)
        obtain ⟨e9, h9⟩ := h9
        have e9 := e9.symm
        subst e9
        rcases h9 with ⟨rfl, hno⟩ | ⟨j, hj, rfl, hf, hnf⟩
        · have hst := (hI.bestR hno).trans hB
          refine xr_astoreN d_S_nextFor_22 (Nat.le_of_ble_eq_true rfl) ?_
          refine xr_aloadN d_S_nextFor_24 rfl ?_
          refine xr_ifnullN (tgt := 58) d_S_nextFor_26 rfl ?_
          refine xr_iinc1 d_S_nextFor_58 rfl ?_
          refine xr_goto (tgt := 4) d_S_nextFor_61 rfl ?_
          rw [nI_1]
          have z := fun y => ih (r + 1) y (by omega) (by omega)
          simp only [hst] at z
          exact z _
        · have hx := k_okx hW hr hj
          have hbe := k_bestS (by omega) hf hnf
          rw [hB] at hbe
          refine xr_astore d_S_nextFor_22 (Nat.le_of_ble_eq_true rfl) ?_
          refine xr_aload d_S_nextFor_24 rfl ?_
          refine xr_ifnull d_S_nextFor_26 ?_
          refine xr_aload_n d_S_nextFor_29 rfl ?_
          refine xr_ifnull d_S_nextFor_30 ?_
          refine xr_aload_n d_S_nextFor_33 rfl ?_
          refine xr_aload d_S_nextFor_34 rfl ?_
          refine xr_getf d_S_nextFor_36 xf_4_88 (hW.tsk hx) rfl ?_
          refine xr_getf d_S_nextFor_39 xf_4_92 (hW.run (by omega)) rfl ?_
          refine xr_aload_n d_S_nextFor_42 rfl ?_
          refine xr_getf d_S_nextFor_43 xf_4_88 (hW.tsk hxb) rfl ?_
          refine xr_getf d_S_nextFor_46 xf_4_92 (hW.run (by omega)) rfl ?_
          refine xr_V2i d_S_nextFor_49 xv_4_190 hW.this rfl rfl rfl (Nat.le_of_ble_eq_true rfl) (by decide) (s_served hW hI) (fun v h1 h9 => ?_)
          obtain ⟨rfl, e9⟩ := h9
          have e9 := e9.symm
          subst e9
          refine xr_if_eq (tgt := 58) d_S_nextFor_52 rfl (fun c52 => ?_) (fun c52 => ?_)
          · have hst := hbe.trans (if_neg (kbi_0.mp c52))
            refine xr_iinc1 d_S_nextFor_58 rfl ?_
            refine xr_goto (tgt := 4) d_S_nextFor_61 rfl ?_
            rw [nI_1]
            have z := fun y => ih (r + 1) y (by omega) (by omega)
            simp only [hst] at z
            exact z _
          · have hbe := hbe.trans (if_pos (kbi_n0 c52))
            refine xr_aload d_S_nextFor_55 rfl ?_
            refine xr_astore_n d_S_nextFor_57 (Nat.le_of_ble_eq_true rfl) ?_
            have hst := hbe
            refine xr_iinc1 d_S_nextFor_58 rfl ?_
            refine xr_goto (tgt := 4) d_S_nextFor_61 rfl ?_
            rw [nI_1]
            have z := fun y => ih (r + 1) y (by omega) (by omega)
            simp only [hst] at z
            exact z _
theorem s_next {g : xm_G} {h : xm_H} {c m : kS} {R : Nat → Option Nat} {A : kA} (hW : kW c R m A h) (hI : kI c R) {u : Nat} (hu : u < kr c) : xm_S g 2 m_S_nextFor (xm_entry m_S_nextFor [.ref (A 0 0), .ref (A 2 u)]) h (xq_r fun o h' => h' = h ∧ o = (k_best c u).map (A 5)) := by
  show xm_S g 2 m_S_nextFor (0, [some (.ref (A 0 0)), some (.ref (A 2 u)), none, none, none], []) h _
  refine xr_null d_S_nextFor_0 ?_
  refine xr_astore_nN d_S_nextFor_1 (Nat.le_of_ble_eq_true rfl) ?_
  refine xr_iconst (v := 0) d_S_nextFor_2 rfl ?_
  refine xr_istore_n d_S_nextFor_3 (Nat.le_of_ble_eq_true rfl) ?_
  exact l_next hW hI hu (kq c + 1) 0 none (by omega) (by omega)
theorem p_take {g : xm_G} {h : xm_H} {c m : kS} {R : Nat → Option Nat} {A : kA} (hW : kW c R m A h) {a : Int32} (hI : kI c R) (h8 : kI8 c) : xm_S g 3 m_S_take (xm_entry m_S_take [.ref (A 0 0), .int a]) h (xq_i fun v h' => v = (o_take c a).2 ∧ kQ (o_take c a).1 m A h h') := by
  show xm_S g 3 m_S_take (0, [some (.ref (A 0 0)), some (.int a), none, none], []) h _
  refine xr_aload_n d_S_take_0 rfl ?_
  refine xr_iload_n d_S_take_1 rfl ?_
  refine xr_V1r d_S_take_2 xv_4_98 hW.this rfl rfl (Nat.le_of_ble_eq_true rfl) (by decide) (s_findRunner hW) (fun o h1 h9 => ?_)
  obtain ⟨e9, h9⟩ := h9
  have e9 := e9.symm
  subst e9
  have hb1 := hW.2.2.1
  have hb2 := hW.2.2.2.1
  have hb3 := hW.2.2.2.2
  rcases h9 with ⟨rfl, hout⟩ | ⟨u, hu, rfl, rfl⟩
  · have w : o_take c a = (c, -1) := if_neg (fun q => hout q.1)
    refine xr_astore_nN d_S_take_5 (Nat.le_of_ble_eq_true rfl) ?_
    refine xr_aload_nN d_S_take_6 rfl ?_
    refine xr_ifnullN (tgt := 17) d_S_take_7 rfl ?_
    refine xr_iconst (v := -1) d_S_take_17 rfl ?_
    refine xr_ireturn d_S_take_18 rfl rfl rfl ?_
    rw [w]
    exact ⟨_, rfl, rfl, kQ.of hW hI h8 rfl⟩
  · have hin := k_in_of hu (by omega)
    have hnu : k_n (nI u) = u := nI_clamp (by omega)
    refine xr_astore_n d_S_take_5 (Nat.le_of_ble_eq_true rfl) ?_
    refine xr_aload_n d_S_take_6 rfl ?_
    refine xr_ifnull d_S_take_7 ?_
    refine xr_aload_n d_S_take_10 rfl ?_
    rcases hI.2.2.1 u hu with e | ⟨x, eR⟩
    · refine xr_getf d_S_take_11 xf_4_102 (hW.rnrN hu e) rfl ?_
      refine xr_ifnullN (tgt := 19) d_S_take_14 rfl ?_
      refine xr_aload_n d_S_take_19 rfl ?_
      refine xr_aload_n d_S_take_20 rfl ?_
      refine xr_V1r d_S_take_21 xv_4_106 hW.this rfl rfl (Nat.le_of_ble_eq_true rfl) (by decide) (s_next hW hI hu) (fun o h1 h9 => ?_)
      obtain ⟨e9, h9⟩ := h9
      have e9 := e9.symm
      subst e9
      rcases hB : k_best c u with _ | x
      · obtain rfl : o = none := by rw [h9, hB]; rfl
        have w := o_take_N hu hb2 e hB
        refine xr_astore_nN d_S_take_24 (Nat.le_of_ble_eq_true rfl) ?_
        refine xr_aload_nN d_S_take_25 rfl ?_
        refine xr_ifnonnullN d_S_take_26 ?_
        refine xr_iconst (v := -1) d_S_take_29 rfl ?_
        refine xr_ireturn d_S_take_30 rfl rfl rfl ?_
        rw [w]
        exact ⟨_, rfl, rfl, kQ.of hW hI h8 rfl⟩
      · obtain rfl : o = some (A 5 x) := by rw [h9, hB]; rfl
        have w := o_take_S hu hb2 e hB
        have hf := (k_best_sp _ x hB).2
        have hx := hI.okfit hf
        refine xr_astore_n d_S_take_24 (Nat.le_of_ble_eq_true rfl) ?_
        refine xr_aload_n d_S_take_25 rfl ?_
        refine xr_ifnonnull (tgt := 31) d_S_take_26 rfl ?_
        refine xr_aload_n d_S_take_31 rfl ?_
        refine xr_aload_n d_S_take_32 rfl ?_
        refine xr_aload_n d_S_take_33 rfl ?_
        refine xr_getf d_S_take_34 xf_4_37 hW.this rfl ?_
        refine xr_V2v d_S_take_37 xv_4_110 (hW.tsk hx) rfl rfl rfl (Nat.le_of_ble_eq_true rfl) (by decide) (s_startOn hW hx hu) (fun h1 h9 => ?_)
        obtain ⟨hW, he⟩ := h9
        rw [k_start_c] at hW
        have hI := hI.start hu hx hf.1 e
        have h8 := h8.start u x
        have hx : x < 12 * kq (k_start c u x) ∧ x % 12 < kj (k_start c u x) := hx
        refine xr_aload_n d_S_take_40 rfl ?_
        refine xr_V0i d_S_take_41 xv_4_114 (hW.tsk hx) rfl (Nat.le_of_ble_eq_true rfl) (by decide) (s_place hW hx) (fun v h2 h9 => ?_)
        obtain ⟨rfl, e9⟩ := h9
        have e9 := e9.symm
        subst e9
        refine xr_ireturn d_S_take_44 rfl rfl rfl ?_
        rw [w]
        exact ⟨_, rfl, rfl, kQ.of hW hI h8 he⟩
    · obtain ⟨hx, -, e⟩ := hI.2.1 x u eR
      have hxx := hx
      unfold k_ok at hx
      have hx2 : x < 2 ^ 31 := by have := hI.x120 hx; omega
      have hnx : k_n (nI x) = x := nI_clamp hx2
      have w : o_take c (nI u) = (c, -1) := if_neg (fun q => nI_ne hx2 (e.symm.trans (by have z := q.2; rw [hnu] at z; exact z)))
      refine xr_getf d_S_take_11 xf_4_102 (hW.rnrS hu hx2 e) rfl ?_
      refine xr_ifnull d_S_take_14 ?_
      refine xr_iconst (v := -1) d_S_take_17 rfl ?_
      refine xr_ireturn d_S_take_18 rfl rfl rfl ?_
      rw [w]
      exact ⟨_, rfl, rfl, kQ.of hW hI h8 rfl⟩
theorem l_anyb {g : xm_G} {h : xm_H} {c m : kS} {R : Nat → Option Nat} {A : kA} (hW : kW c R m A h) (hI : kI c R) : ∀ (n : Nat) (u : Nat), u ≤ kr c → kr c < u + n → (∀ k, k < u → kF c 19 k = -1) → xm_S g 0 m_S_isAnyRunnerBusy (2, [some (.ref (A 0 0)), some (.int (nI u))], []) h (xq_i fun v h' => v = kbi (¬ k_idle c) ∧ h' = h) := by
  intro n
  induction n with
  | zero => intros; omega
  | succ n ih =>
    intro u h1 h2 h3
    have hb := hI.1
    refine xr_iload_n d_S_isAnyRunnerBusy_2 rfl ?_
    refine xr_aload_n d_S_isAnyRunnerBusy_3 rfl ?_
    refine xr_getf d_S_isAnyRunnerBusy_4 xf_4_31 hW.this rfl ?_
    refine xr_icmp_ge (tgt := 30) d_S_isAnyRunnerBusy_7 rfl (fun c7 => ?_) (fun c7 => ?_)
    · have hre : u = kr c := by have := k_ge_ge (by omega) c7; omega
      subst hre
      refine xr_iconst (v := 0) d_S_isAnyRunnerBusy_30 rfl ?_
      refine xr_ireturn d_S_isAnyRunnerBusy_31 rfl rfl rfl ?_
      exact ⟨_, rfl, (kbi_f (p := ¬ k_idle c) (fun q => q h3)).symm, rfl⟩
    · have hu : u < kr c := k_ge_lt (by omega) (by omega) c7
      refine xr_aload_n d_S_isAnyRunnerBusy_10 rfl ?_
      refine xr_getf d_S_isAnyRunnerBusy_11 xf_4_17 hW.this rfl ?_
      refine xr_iload_n d_S_isAnyRunnerBusy_14 rfl ?_
      refine kr_rnrs (u := u) hW d_S_isAnyRunnerBusy_15 rfl hu ?_
      rcases hI.2.2.1 u hu with e | ⟨x, eR⟩
      · refine xr_getf d_S_isAnyRunnerBusy_16 xf_4_102 (hW.rnrN hu e) rfl ?_
        refine xr_ifnullN (tgt := 24) d_S_isAnyRunnerBusy_19 rfl ?_
        refine xr_iinc1 d_S_isAnyRunnerBusy_24 rfl ?_
        refine xr_goto (tgt := 2) d_S_isAnyRunnerBusy_27 rfl ?_
        rw [nI_1]
        exact ih (u + 1) (by omega) (by omega) (kq_s.mpr ⟨h3, e⟩)
      · obtain ⟨hx, -, e⟩ := hI.2.1 x u eR
        have hxx := hx
        unfold k_ok at hx
        have hx2 : x < 2 ^ 31 := by have := hI.x120 hx; omega
        have hnx : k_n (nI x) = x := nI_clamp hx2
        refine xr_getf d_S_isAnyRunnerBusy_16 xf_4_102 (hW.rnrS hu hx2 e) rfl ?_
        refine xr_ifnull d_S_isAnyRunnerBusy_19 ?_
        refine xr_iconst (v := 1) d_S_isAnyRunnerBusy_22 rfl ?_
        refine xr_ireturn d_S_isAnyRunnerBusy_23 rfl rfl rfl ?_
        exact ⟨_, rfl, (kbi_t (p := ¬ k_idle c) (fun q => nI_ne hx2 (e.symm.trans (q u hu)))).symm, rfl⟩
theorem s_anyb {g : xm_G} {h : xm_H} {c m : kS} {R : Nat → Option Nat} {A : kA} (hW : kW c R m A h) (hI : kI c R) : xm_S g 0 m_S_isAnyRunnerBusy (xm_entry m_S_isAnyRunnerBusy [.ref (A 0 0)]) h (xq_i fun v h' => v = kbi (¬ k_idle c) ∧ h' = h) := by
  show xm_S g 0 m_S_isAnyRunnerBusy (0, [some (.ref (A 0 0)), none], []) h _
  refine xr_iconst (v := 0) d_S_isAnyRunnerBusy_0 rfl ?_
  refine xr_istore_n d_S_isAnyRunnerBusy_1 (Nat.le_of_ble_eq_true rfl) ?_
  exact l_anyb hW hI (kr c + 1) 0 (by omega) (by omega) (fun k hk => absurd hk (Nat.not_lt_zero _))
theorem l_check {g : xm_G} {h0 : xm_H} {s m : kS} {A : kA}  : ∀ (n : Nat) (u : Nat) (R : Nat → Option Nat) (x2 : Option Value) (h : xm_H), kW (k_chN s u) R m A h → kI (k_chN s u) R → kI8 (k_chN s u) → h.2 = h0.2 → u ≤ kr s → kr s < u + n → xm_S g 2 m_S_checkRunners (2, [some (.ref (A 0 0)), some (.int (nI u)), x2], []) h (xq_v fun h' => ∃ R', kW (k_chN s (kr s)) R' m A h' ∧ kI (k_chN s (kr s)) R' ∧ kI8 (k_chN s (kr s)) ∧ h'.2 = h0.2) := by
  intro n
  induction n with
  | zero => intros; omega
  | succ n ih =>
    intro u R x2 h hW hI h8 he h1 h2
    have e1 := k_chN_1 s u
    have hk : k_chN s (u + 1) = k_ch1 (k_chN s u) u := rfl
    generalize hC : k_chN s u = C at *
    have hkr : kr C = kr s := congrArg (fun z => z.2.1) e1
    rw [← hkr] at h1 h2
    have hb := hI.1
    refine xr_iload_n d_S_checkRunners_2 rfl ?_
    refine xr_aload_n d_S_checkRunners_3 rfl ?_
    refine xr_getf d_S_checkRunners_4 xf_4_31 hW.this rfl ?_
    refine xr_icmp_ge (tgt := 73) d_S_checkRunners_7 rfl (fun c7 => ?_) (fun c7 => ?_)
    · have hre : u = kr C := by have := k_ge_ge (by omega) c7; omega
      refine xr_return d_S_checkRunners_73 rfl rfl ?_
      refine ⟨rfl, R, ?_, ?_, ?_, he⟩
      · rw [← hkr, ← hre, hC]; exact hW
      · rw [← hkr, ← hre, hC]; exact hI
      · rw [← hkr, ← hre, hC]; exact h8
    · have hu : u < kr C := k_ge_lt (by omega) (by omega) c7
      refine xr_aload_n d_S_checkRunners_10 rfl ?_
      refine xr_getf d_S_checkRunners_11 xf_4_17 hW.this rfl ?_
      refine xr_iload_n d_S_checkRunners_14 rfl ?_
      refine kr_rnrs (u := u) hW d_S_checkRunners_15 rfl hu ?_
      rcases hI.2.2.1 u hu with e | ⟨x, eR⟩
      · have hst : k_chN s (u + 1) = C := hk.trans (if_pos e)
        refine xr_getf d_S_checkRunners_16 xf_4_102 (hW.rnrN hu e) rfl ?_
        refine xr_astore_nN d_S_checkRunners_19 (Nat.le_of_ble_eq_true rfl) ?_
        refine xr_aload_nN d_S_checkRunners_20 rfl ?_
        refine xr_ifnullN (tgt := 67) d_S_checkRunners_21 rfl ?_
        refine xr_iinc1 d_S_checkRunners_67 rfl ?_
        refine xr_goto (tgt := 2) d_S_checkRunners_70 rfl ?_
        rw [nI_1]
        exact ih (u + 1) _ _ _ (by rw [hst]; exact hW) (by rw [hst]; exact hI) (by rw [hst]; exact h8) he (by omega) (by omega)
      · obtain ⟨hx, -, e⟩ := hI.2.1 x u eR
        have hxx := hx
        unfold k_ok at hx
        have hx2 : x < 2 ^ 31 := by have := hI.x120 hx; omega
        have hnx : k_n (nI x) = x := nI_clamp hx2
        have hs2 := hI.runR eR
        have hk2 : k_chN s (u + 1) = if k_lat C u then k_lose C x else if k_lim C x then k_fail C x else C := by
          rw [hk]
          unfold k_ch1
          rw [e, hnx, if_neg (nI_ne hx2)]
        have ha := k_14a hI (x := x) (by rw [hs2]; decide)
        refine xr_getf d_S_checkRunners_16 xf_4_102 (hW.rnrS hu hx2 e) rfl ?_
        refine xr_astore_n d_S_checkRunners_19 (Nat.le_of_ble_eq_true rfl) ?_
        refine xr_aload_n d_S_checkRunners_20 rfl ?_
        refine xr_ifnull d_S_checkRunners_21 ?_
        refine xr_aload_n d_S_checkRunners_24 rfl ?_
        refine xr_getf d_S_checkRunners_25 xf_4_37 hW.this rfl ?_
        refine xr_aload_n d_S_checkRunners_28 rfl ?_
        refine xr_getf d_S_checkRunners_29 xf_4_17 hW.this rfl ?_
        refine xr_iload_n d_S_checkRunners_32 rfl ?_
        refine kr_rnrs (u := u) hW d_S_checkRunners_33 rfl hu ?_
        refine xr_getf d_S_checkRunners_34 xf_4_118 (hW.rnr hu) rfl ?_
        refine xr_isub d_S_checkRunners_37 ?_
        refine xr_aload_n d_S_checkRunners_38 rfl ?_
        refine xr_getf d_S_checkRunners_39 xf_4_40 hW.this rfl ?_
        refine xr_icmp_le (tgt := 52) d_S_checkRunners_42 rfl (fun c42 => ?_) (fun c42 => ?_)
        · have hk3 := hk2.trans (if_neg (ki_nlt.mpr c42))
          refine xr_aload_n d_S_checkRunners_52 rfl ?_
          refine xr_aload_n d_S_checkRunners_53 rfl ?_
          refine xr_getf d_S_checkRunners_54 xf_4_37 hW.this rfl ?_
          refine xr_V1i d_S_checkRunners_57 xv_4_201 (hW.tsk hx) rfl rfl (Nat.le_of_ble_eq_true rfl) (by decide) (s_isPastLimit hW hx) (fun v h9s h9 => ?_)
          obtain ⟨rfl, e9⟩ := h9
          have e9 := e9.symm
          subst e9
          refine xr_if_eq (tgt := 67) d_S_checkRunners_60 rfl (fun c60 => ?_) (fun c60 => ?_)
          · have hst := hk3.trans (if_neg (kbi_0.mp c60))
            refine xr_iinc1 d_S_checkRunners_67 rfl ?_
            refine xr_goto (tgt := 2) d_S_checkRunners_70 rfl ?_
            rw [nI_1]
            exact ih (u + 1) _ _ _ (by rw [hst]; exact hW) (by rw [hst]; exact hI) (by rw [hst]; exact h8) he (by omega) (by omega)
          · have hst := hk3.trans (if_pos (kbi_n0 c60))
            refine xr_aload_n d_S_checkRunners_63 rfl ?_
            refine xr_V0v d_S_checkRunners_64 xv_4_124 (hW.tsk hx) rfl (Nat.le_of_ble_eq_true rfl) (by decide) (s_failTry hW hx (fun u q => (hI.2.1 _ u q).2.1)) (fun h1 h9 => ?_)
            obtain ⟨hW, he1⟩ := h9
            rw [hI.lv hx2, k_fail_c] at hW
            have hI := hI.fail hx hs2
            have h8 := h8.fail x
            have he := he1.trans he
            refine xr_iinc1 d_S_checkRunners_67 rfl ?_
            refine xr_goto (tgt := 2) d_S_checkRunners_70 rfl ?_
            rw [nI_1]
            exact ih (u + 1) _ _ _ (by rw [hst]; exact hW) (by rw [hst]; exact hI) (by rw [hst]; exact h8) he (by omega) (by omega)
        · have hst := hk2.trans (if_pos (ki_nle.mp c42))
          refine xr_aload_n d_S_checkRunners_45 rfl ?_
          refine xr_V0v d_S_checkRunners_46 xv_4_198 (hW.tsk hx) rfl (Nat.le_of_ble_eq_true rfl) (by decide) (s_loseRunner hW hx (fun u q => (hI.2.1 _ u q).2.1) (by rcases ha with q | q <;> rw [q] <;> decide)) (fun h1 h9 => ?_)
          obtain ⟨hW, he1⟩ := h9
          rw [hI.lv hx2, k_lose_c ha] at hW
          have hI := hI.lose hx hs2
          have h8 := h8.lose x
          have he := he1.trans he
          refine xr_goto (tgt := 67) d_S_checkRunners_49 rfl ?_
          refine xr_iinc1 d_S_checkRunners_67 rfl ?_
          refine xr_goto (tgt := 2) d_S_checkRunners_70 rfl ?_
          rw [nI_1]
          exact ih (u + 1) _ _ _ (by rw [hst]; exact hW) (by rw [hst]; exact hI) (by rw [hst]; exact h8) he (by omega) (by omega)
theorem s_check {g : xm_G} {h : xm_H} {s m : kS} {R : Nat → Option Nat} {A : kA} (hW : kW s R m A h) (hI : kI s R) (h8 : kI8 s) : xm_S g 2 m_S_checkRunners (xm_entry m_S_checkRunners [.ref (A 0 0)]) h (xq_v fun h' => ∃ R', kW (k_passN s (12 * kq s)) R' m A h' ∧ kI (k_passN s (12 * kq s)) R' ∧ kI8 (k_passN s (12 * kq s)) ∧ h'.2 = h.2) := by
  rw [← hI.check]
  show xm_S g 2 m_S_checkRunners (0, [some (.ref (A 0 0)), none, none], []) h _
  refine xr_iconst (v := 0) d_S_checkRunners_0 rfl ?_
  refine xr_istore_n d_S_checkRunners_1 (Nat.le_of_ble_eq_true rfl) ?_
  exact l_check (h0 := h) (kr s + 1) 0 R none h hW hI h8 rfl (by omega) (by omega)
theorem k_le1000 {a : Int32} (h : a ≤ 1000) : ¬ nI 1001 ≤ a := fun q => by
  have q1 := Int32.le_iff_toInt_le.mp q
  have q2 := Int32.le_iff_toInt_le.mp h
  rw [ti_1000] at q2
  rw [show (nI 1001).toInt = 1001 by decide] at q1
  omega
theorem l_tick {g : xm_G} {h0 : xm_H} {s m : kS} {A : kA} {N : Nat} (hN : N < 1001) : ∀ (n : Nat) (i : Nat) (R : Nat → Option Nat) (h : xm_H), kW (k_tickN s i) R m A h → kI (k_tickN s i) R → kI8 (k_tickN s i) → h.2 = h0.2 → i ≤ N → N < i + n → xm_S g 5 m_S_tick (22, [some (.ref (A 0 0)), some (.int (nI N)), some (.int (kc s + nI N)), some (.int (nI i))], []) h (xq_i fun v h' => v = kc (k_settle (k_tickN s N)) ∧ kQ (k_settle (k_tickN s N)) m A h0 h') := by
  intro n
  induction n with
  | zero => intros; omega
  | succ n ih =>
    intro i R h hW hI h8 he h1 h2
    have hk : k_tickN s (i + 1) = k_tick1 (k_tickN s i) := rfl
    have hTi : k_idle (k_tickN s i) → kck (k_tickN s i) (kc s + nI N) = k_tickN s N := fun q => hI.tick_i q h1
    have hTe : i = N → kck (k_tickN s i) (kc s + nI N) = k_tickN s N := fun q => by rw [q]; exact k_tick_e s N
    generalize hC : k_tickN s i = C at *
    refine xr_iload_n d_S_tick_22 rfl ?_
    refine xr_iload_n d_S_tick_23 rfl ?_
    refine xr_icmp_ge (tgt := 54) d_S_tick_24 rfl (fun c24 => ?_) (fun c24 => ?_)
    · have hT := hTe (by have := k_ge_ge (by omega) c24; omega)
      refine xr_aload_n d_S_tick_54 rfl ?_
      refine xr_iload_n d_S_tick_55 rfl ?_
      refine kr_pclk hW d_S_tick_56 xf_4_37 (fun h9s hW he9 => ?_)
      have hW : kW (kck C (kc s + nI N)) R m A h9s := hW
      have hI : kI (kck C (kc s + nI N)) R := hI.clk _
      have h8 : kI8 (kck C (kc s + nI N)) := h8.clk _
      rw [hT] at hW hI h8
      refine xr_aload_n d_S_tick_59 rfl ?_
      refine xr_V0v d_S_tick_60 xv_4_67 hW.this rfl (Nat.le_of_ble_eq_true rfl) (by decide) (s_settle hW hI h8) (fun h9s h9 => ?_)
      obtain ⟨hW, hI, h8, hes⟩ := h9
      refine xr_aload_n d_S_tick_63 rfl ?_
      refine xr_getf d_S_tick_64 xf_4_37 hW.this rfl ?_
      refine xr_ireturn d_S_tick_67 rfl rfl rfl ?_
      exact ⟨_, rfl, rfl, kQ.of hW hI h8 (hes.trans (he9.trans he))⟩
    · have hil : i < N := k_ge_lt (by omega) (by omega) c24
      refine xr_aload_n d_S_tick_27 rfl ?_
      refine xr_V0i d_S_tick_28 xv_4_127 hW.this rfl (Nat.le_of_ble_eq_true rfl) (by decide) (s_anyb hW hI) (fun v h1s h9 => ?_)
      obtain ⟨rfl, e9⟩ := h9
      have e9 := e9.symm
      subst e9
      refine xr_if_eq (tgt := 54) d_S_tick_31 rfl (fun c31 => ?_) (fun c31 => ?_)
      · have hT := hTi (Classical.byContradiction (kbi_0.mp c31))
        refine xr_aload_n d_S_tick_54 rfl ?_
        refine xr_iload_n d_S_tick_55 rfl ?_
        refine kr_pclk hW d_S_tick_56 xf_4_37 (fun h9s hW he9 => ?_)
        have hW : kW (kck C (kc s + nI N)) R m A h9s := hW
        have hI : kI (kck C (kc s + nI N)) R := hI.clk _
        have h8 : kI8 (kck C (kc s + nI N)) := h8.clk _
        rw [hT] at hW hI h8
        refine xr_aload_n d_S_tick_59 rfl ?_
        refine xr_V0v d_S_tick_60 xv_4_67 hW.this rfl (Nat.le_of_ble_eq_true rfl) (by decide) (s_settle hW hI h8) (fun h9s h9 => ?_)
        obtain ⟨hW, hI, h8, hes⟩ := h9
        refine xr_aload_n d_S_tick_63 rfl ?_
        refine xr_getf d_S_tick_64 xf_4_37 hW.this rfl ?_
        refine xr_ireturn d_S_tick_67 rfl rfl rfl ?_
        exact ⟨_, rfl, rfl, kQ.of hW hI h8 (hes.trans (he9.trans he))⟩
      · refine xr_aload_n d_S_tick_34 rfl ?_
        refine xr_dup d_S_tick_35 rfl ?_
        refine xr_getf d_S_tick_36 xf_4_37 hW.this rfl ?_
        refine xr_iconst (v := 1) d_S_tick_39 rfl ?_
        refine xr_iadd d_S_tick_40 ?_
        refine kr_pclk hW d_S_tick_41 xf_4_37 (fun h9s hW he9 => ?_)
        have hW : kW (kck C (kc C + 1)) R m A h9s := hW
        have hI : kI (kck C (kc C + 1)) R := hI.clk _
        have h8 : kI8 (kck C (kc C + 1)) := h8.clk _
        refine xr_aload_n d_S_tick_44 rfl ?_
        refine xr_V0v d_S_tick_45 xv_4_130 hW.this rfl (Nat.le_of_ble_eq_true rfl) (by decide) (s_check hW hI h8) (fun h9t h9 => ?_)
        obtain ⟨R, hW, hI, h8, he2⟩ := h9
        have he := he2.trans (he9.trans he)
        have hst : k_tickN s (i + 1) = k_passN (kck C (kc C + 1)) (12 * kq C) := hk
        refine xr_iinc1 d_S_tick_48 rfl ?_
        refine xr_goto (tgt := 22) d_S_tick_51 rfl ?_
        rw [nI_1]
        exact ih (i + 1) R _ (by rw [hst]; exact hW) (by rw [hst]; exact hI) (by rw [hst]; exact h8) he (by omega) (by omega)
theorem p_tick {g : xm_G} {h : xm_H} {c m : kS} {R : Nat → Option Nat} {A : kA} (hW : kW c R m A h) {a : Int32} (hI : kI c R) (h8 : kI8 c) : xm_S g 5 m_S_tick (xm_entry m_S_tick [.ref (A 0 0), .int a]) h (xq_i fun v h' => v = (o_tick c a).2 ∧ kQ (o_tick c a).1 m A h h') := by
  show xm_S g 5 m_S_tick (0, [some (.ref (A 0 0)), some (.int a), none, none], []) h _
  refine xr_iload_n d_S_tick_0 rfl ?_
  refine xr_if_lt (tgt := 11) d_S_tick_1 rfl (fun c1 => ?_) (fun c1 => ?_)
  · have w : o_tick c a = (c, -1) := if_pos (Or.inl c1)
    refine xr_iconst (v := -1) d_S_tick_11 rfl ?_
    refine xr_ireturn d_S_tick_12 rfl rfl rfl ?_
    rw [w]
    exact ⟨_, rfl, rfl, kQ.of hW hI h8 rfl⟩
  · refine xr_iload_n d_S_tick_4 rfl ?_
    refine xr_sipush (v := 1000) d_S_tick_5 rfl ?_
    refine xr_icmp_le (tgt := 13) d_S_tick_8 rfl (fun c8 => ?_) (fun c8 => ?_)
    · obtain ⟨N, hN, rfl⟩ := k_in_ex (v := a) (n := 1001) (by decide) ⟨c1, k_le1000 c8⟩
      have w : o_tick c (nI N) = (k_settle (k_tickN c N), kc (k_settle (k_tickN c N))) := by
        unfold o_tick
        rw [show k_n (nI N) = N from nI_clamp (by omega), if_neg (fun q => q.elim c1 (ki_nlt.mpr c8))]
      refine xr_aload_n d_S_tick_13 rfl ?_
      refine xr_getf d_S_tick_14 xf_4_37 hW.this rfl ?_
      refine xr_iload_n d_S_tick_17 rfl ?_
      refine xr_iadd d_S_tick_18 ?_
      refine xr_istore_n d_S_tick_19 (Nat.le_of_ble_eq_true rfl) ?_
      refine xr_iconst (v := 0) d_S_tick_20 rfl ?_
      refine xr_istore_n d_S_tick_21 (Nat.le_of_ble_eq_true rfl) ?_
      rw [w]
      dsimp only
      exact l_tick (h0 := h) hN (N + 1) 0 R h hW hI h8 rfl (by omega) (by omega)
    · have w : o_tick c a = (c, -1) := if_pos (Or.inr (ki_nle.mp c8))
      refine xr_iconst (v := -1) d_S_tick_11 rfl ?_
      refine xr_ireturn d_S_tick_12 rfl rfl rfl ?_
      rw [w]
      exact ⟨_, rfl, rfl, kQ.of hW hI h8 rfl⟩
end
section
/-! the reference's take and tick -/
theorem ql_busy {g : xm_G} {h : xm_H} {c m : kS} {R : Nat → Option Nat} {A : kA} (hW : kW c R m A h) (hB : kMb m) {p : Int32} : ∀ (n : Nat) (x : Nat), x ≤ 12 * kq m → 12 * kq m < x + n → xm_S g 0 m_M_busy (4, [some (.ref (A 6 0)), some (.int p), some (.int (nI (k_busyN m p x))), some (.int (nI x))], []) h (xq_i fun v h' => v = nI (k_busy m p) ∧ h' = h) := by
  intro n
  induction n with
  | zero => intros; omega
  | succ n ih =>
    intro x h1 h2
    refine xr_iload_n d_M_busy_4 rfl ?_
    refine xr_bipush (v := 12) d_M_busy_5 rfl ?_
    refine xr_aload_n d_M_busy_7 rfl ?_
    refine xr_getf d_M_busy_8 xf_5_81 hW.ref rfl ?_
    refine xr_imul d_M_busy_11 ?_
    rw [k12m]
    refine xr_icmp_ge (tgt := 52) d_M_busy_12 rfl (fun c12 => ?_) (fun c12 => ?_)
    · have hre : x = 12 * kq m := by have := k_ge_ge (by omega) c12; omega
      refine xr_iload_n d_M_busy_52 rfl ?_
      refine xr_ireturn d_M_busy_53 rfl rfl rfl ?_
      exact ⟨_, rfl, by rw [hre]; rfl, rfl⟩
    · have hxl : x < 12 * kq m := k_ge_lt (by omega) (by omega) c12
      refine xr_iload_n d_M_busy_15 rfl ?_
      refine xr_aload_n d_M_busy_16 rfl ?_
      refine xr_getf d_M_busy_17 xf_5_42 hW.ref rfl ?_
      refine xr_iload_n d_M_busy_20 rfl ?_
      refine kr_ild hW (f := 9) (by decide) rfl d_M_busy_21 (n := x) rfl (show x < 120 by omega) ?_
      refine xr_iconst (v := 2) d_M_busy_22 rfl ?_
      refine xr_icmp_ne (tgt := 43) d_M_busy_23 rfl (fun c23 => ?_) (fun c23 => ?_)
      · have hst : nI (k_busyN m p x) + 0 = nI (k_busyN m p (x + 1)) := by rw [k_busyN_s, k_b1_f (fun q => c23 q.1), show (0 : Int32) = nI 0 from rfl, nI_add]
        refine xr_iconst (v := 0) d_M_busy_43 rfl ?_
        refine xr_iadd d_M_busy_44 ?_
        refine xr_istore_n d_M_busy_45 (Nat.le_of_ble_eq_true rfl) ?_
        refine xr_iinc1 d_M_busy_46 rfl ?_
        refine xr_goto (tgt := 4) d_M_busy_49 rfl ?_
        rw [nI_1 x, hst]
        exact ih (x + 1) (by omega) (by omega)
      · refine xr_aload_n d_M_busy_26 rfl ?_
        refine xr_getf d_M_busy_27 xf_5_33 hW.ref rfl ?_
        refine xr_iload_n d_M_busy_30 rfl ?_
        refine xr_bipush (v := 12) d_M_busy_31 rfl ?_
        refine xr_idiv d_M_busy_33 (by decide) ?_
        rw [k12d (by omega)]
        refine kr_ild hW (f := 6) (by decide) rfl d_M_busy_34 (n := x / 12) rfl (show x / 12 < 10 by omega) ?_
        refine xr_iload_n d_M_busy_35 rfl ?_
        refine xr_icmp_ne (tgt := 43) d_M_busy_36 rfl (fun c36 => ?_) (fun c36 => ?_)
        · have hst : nI (k_busyN m p x) + 0 = nI (k_busyN m p (x + 1)) := by rw [k_busyN_s, k_b1_f (fun q => c36 q.2), show (0 : Int32) = nI 0 from rfl, nI_add]
          refine xr_iconst (v := 0) d_M_busy_43 rfl ?_
          refine xr_iadd d_M_busy_44 ?_
          refine xr_istore_n d_M_busy_45 (Nat.le_of_ble_eq_true rfl) ?_
          refine xr_iinc1 d_M_busy_46 rfl ?_
          refine xr_goto (tgt := 4) d_M_busy_49 rfl ?_
          rw [nI_1 x, hst]
          exact ih (x + 1) (by omega) (by omega)
        · have hst : nI (k_busyN m p x) + 1 = nI (k_busyN m p (x + 1)) := by
            rw [k_busyN_s, show k_b1 (kF m 9 x = 2 ∧ kF m 6 (x / 12) = p) = 1 from if_pos ⟨c23, c36⟩, nI_1]
          refine xr_iconst (v := 1) d_M_busy_39 rfl ?_
          refine xr_goto (tgt := 44) d_M_busy_40 rfl ?_
          refine xr_iadd d_M_busy_44 ?_
          refine xr_istore_n d_M_busy_45 (Nat.le_of_ble_eq_true rfl) ?_
          refine xr_iinc1 d_M_busy_46 rfl ?_
          refine xr_goto (tgt := 4) d_M_busy_49 rfl ?_
          rw [nI_1 x, hst]
          exact ih (x + 1) (by omega) (by omega)
theorem q_busy {g : xm_G} {h : xm_H} {c m : kS} {R : Nat → Option Nat} {A : kA} (hW : kW c R m A h) (hB : kMb m) {p : Int32} : xm_S g 0 m_M_busy (xm_entry m_M_busy [.ref (A 6 0), .int p]) h (xq_i fun v h' => v = nI (k_busy m p) ∧ h' = h) := by
  show xm_S g 0 m_M_busy (0, [some (.ref (A 6 0)), some (.int p), none, none], []) h _
  refine xr_iconst (v := 0) d_M_busy_0 rfl ?_
  refine xr_istore_n d_M_busy_1 (Nat.le_of_ble_eq_true rfl) ?_
  refine xr_iconst (v := 0) d_M_busy_2 rfl ?_
  refine xr_istore_n d_M_busy_3 (Nat.le_of_ble_eq_true rfl) ?_
  exact ql_busy hW hB (12 * kq m + 1) 0 (by omega) (by omega)
theorem ql_take {g : xm_G} {h h0 : xm_H} {c m : kS} {R : Nat → Option Nat} {A : kA} (hW : kW c R m A h) (he : h.2 = h0.2) (hB : kMb m) {u : Nat} (hu : u < kr m) (hr6 : kr m ≤ 6) (h19 : kF m 19 u = -1) : ∀ (n : Nat) (x : Nat) (x4 x5 : Option Value), x ≤ 12 * kq m → 12 * kq m < x + n → xm_S g 1 m_M_take (29, [some (.ref (A 6 0)), some (.int (nI u)), some (.int (k_ru (k_bestN m u x))), some (.int (nI x)), x4, x5], []) h (xq_i fun v h' => v = (o_take m (nI u)).2 ∧ kW c R (o_take m (nI u)).1 A h' ∧ h'.2 = h0.2) := by
  intro n
  induction n with
  | zero => intros; omega
  | succ n ih =>
    intro x x4 x5 h1 h2
    have hk : k_bestN m u (x + 1) = if k_fit m u x then k_bst m (k_bestN m u x) x else k_bestN m u x := rfl
    rcases hB0 : k_bestN m u x with _ | b
    · rw [hB0] at hk
      show xm_S g 1 m_M_take (29, [some (.ref (A 6 0)), some (.int (nI u)), some (.int (-1)), some (.int (nI x)), x4, x5], []) h _
      refine xr_iload_n d_M_take_29 rfl ?_
      refine xr_bipush (v := 12) d_M_take_30 rfl ?_
      refine xr_aload_n d_M_take_32 rfl ?_
      refine xr_getf d_M_take_33 xf_5_81 hW.ref rfl ?_
      refine xr_imul d_M_take_36 ?_
      rw [k12m]
      refine xr_icmp_ge (tgt := 155) d_M_take_37 rfl (fun c37 => ?_) (fun c37 => ?_)
      · have hre : x = 12 * kq m := by have := k_ge_ge (by omega) c37; omega
        subst hre
        refine xr_iload_n d_M_take_155 rfl ?_
        refine xr_iconst (v := -1) d_M_take_156 rfl ?_
        refine xr_icmp_ne (tgt := 162) d_M_take_157 rfl (fun n9 => absurd n9 (fun q => q rfl)) (fun _ => ?_)
        refine xr_iconst (v := -1) d_M_take_160 rfl ?_
        refine xr_ireturn d_M_take_161 rfl rfl rfl ?_
        have w := o_take_N hu hr6 h19 hB0
        rw [w]
        exact ⟨_, rfl, rfl, hW, he⟩
      · have hxl : x < 12 * kq m := k_ge_lt (by omega) (by omega) c37
        refine xr_aload_n d_M_take_40 rfl ?_
        refine xr_getf d_M_take_41 xf_5_42 hW.ref rfl ?_
        refine xr_iload_n d_M_take_44 rfl ?_
        refine kr_ild hW (f := 9) (by decide) rfl d_M_take_45 (n := x) rfl (show x < 120 by omega) ?_
        refine xr_iconst (v := 1) d_M_take_46 rfl ?_
        refine xr_icmp_ne (tgt := 149) d_M_take_47 rfl (fun c47 => ?_) (fun c47 => ?_)
        · have hst := hk.trans (if_neg (fun q => c47 q.1))
          refine xr_iinc1 d_M_take_149 rfl ?_
          refine xr_goto (tgt := 29) d_M_take_152 rfl ?_
          rw [nI_1]
          have z := fun y w => ih (x + 1) y w (by omega) (by omega)
          simp only [hst] at z
          exact z _ _
        · refine xr_aload_n d_M_take_50 rfl ?_
          refine xr_getf d_M_take_51 xf_5_13 hW.ref rfl ?_
          refine xr_iload_n d_M_take_54 rfl ?_
          refine xr_bipush (v := 12) d_M_take_55 rfl ?_
          refine xr_irem d_M_take_57 (by decide) ?_
          rw [k12r (by omega)]
          refine kr_ild hW (f := 0) (by decide) rfl d_M_take_58 (n := x % 12) rfl (show x % 12 < 12 by omega) ?_
          refine xr_aload_n d_M_take_59 rfl ?_
          refine xr_getf d_M_take_60 xf_5_66 hW.ref rfl ?_
          refine xr_iload_n d_M_take_63 rfl ?_
          refine kr_ild hW (f := 17) (by decide) rfl d_M_take_64 (n := u) rfl (show u < 6 by omega) ?_
          refine xr_iconst (v := -1) d_M_take_65 rfl ?_
          refine xr_ixor d_M_take_66 ?_
          refine xr_iand d_M_take_67 ?_
          refine xr_if_eq (tgt := 74) d_M_take_68 rfl (fun c68 => ?_) (fun c68 => ?_)
          · have hk := hk.trans (if_pos ⟨c47, c68⟩)
            refine xr_aload_n d_M_take_74 rfl ?_
            refine xr_getf d_M_take_75 xf_5_33 hW.ref rfl ?_
            refine xr_iload_n d_M_take_78 rfl ?_
            refine xr_bipush (v := 12) d_M_take_79 rfl ?_
            refine xr_idiv d_M_take_81 (by decide) ?_
            rw [k12d (by omega)]
            refine kr_ild hW (f := 6) (by decide) rfl d_M_take_82 (n := x / 12) rfl (show x / 12 < 10 by omega) ?_
            refine xr_istore d_M_take_83 (Nat.le_of_ble_eq_true rfl) ?_
            refine xr_iload_n d_M_take_85 rfl ?_
            refine xr_iconst (v := -1) d_M_take_86 rfl ?_
            refine xr_icmp_ne (tgt := 94) d_M_take_87 rfl (fun n9 => absurd n9 (fun q => q rfl)) (fun _ => ?_)
            refine xr_iconst (v := -1) d_M_take_90 rfl ?_
            refine xr_goto (tgt := 103) d_M_take_91 rfl ?_
            refine xr_istore d_M_take_103 (Nat.le_of_ble_eq_true rfl) ?_
            refine xr_iload_n d_M_take_105 rfl ?_
            refine xr_iconst (v := -1) d_M_take_106 rfl ?_
            refine xr_icmp_eq (tgt := 147) d_M_take_107 rfl (fun _ => ?_) (fun n9 => absurd rfl n9)
            refine xr_iload_n d_M_take_147 rfl ?_
            refine xr_istore_n d_M_take_148 (Nat.le_of_ble_eq_true rfl) ?_
            have hst := hk
            refine xr_iinc1 d_M_take_149 rfl ?_
            refine xr_goto (tgt := 29) d_M_take_152 rfl ?_
            rw [nI_1]
            have z := fun y w => ih (x + 1) y w (by omega) (by omega)
            simp only [hst] at z
            exact z _ _
          · have hst := hk.trans (if_neg (fun q => c68 q.2))
            refine xr_goto (tgt := 149) d_M_take_71 rfl ?_
            refine xr_iinc1 d_M_take_149 rfl ?_
            refine xr_goto (tgt := 29) d_M_take_152 rfl ?_
            rw [nI_1]
            have z := fun y w => ih (x + 1) y w (by omega) (by omega)
            simp only [hst] at z
            exact z _ _
    · have hbx := (k_best_sp _ b hB0).1
      have hbn : ¬ nI b = -1 := nI_ne (by omega)
      rw [hB0] at hk
      show xm_S g 1 m_M_take (29, [some (.ref (A 6 0)), some (.int (nI u)), some (.int (nI b)), some (.int (nI x)), x4, x5], []) h _
      refine xr_iload_n d_M_take_29 rfl ?_
      refine xr_bipush (v := 12) d_M_take_30 rfl ?_
      refine xr_aload_n d_M_take_32 rfl ?_
      refine xr_getf d_M_take_33 xf_5_81 hW.ref rfl ?_
      refine xr_imul d_M_take_36 ?_
      rw [k12m]
      refine xr_icmp_ge (tgt := 155) d_M_take_37 rfl (fun c37 => ?_) (fun c37 => ?_)
      · have hre : x = 12 * kq m := by have := k_ge_ge (by omega) c37; omega
        subst hre
        refine xr_iload_n d_M_take_155 rfl ?_
        refine xr_iconst (v := -1) d_M_take_156 rfl ?_
        refine xr_icmp_ne (tgt := 162) d_M_take_157 rfl (fun _ => ?_) (fun n9 => absurd n9 hbn)
        refine xr_aload_n d_M_take_162 rfl ?_
        refine xr_getf d_M_take_163 xf_5_72 hW.ref rfl ?_
        refine xr_iload_n d_M_take_166 rfl ?_
        refine xr_iload_n d_M_take_167 rfl ?_
        refine kr_ist hW (f := 19) (by decide) rfl d_M_take_168 (n := u) rfl (show u < 6 by omega) (fun h9s hW he9 => ?_)
        have he1 := he9
        refine xr_aload_n d_M_take_169 rfl ?_
        refine xr_getf d_M_take_170 xf_5_69 hW.ref rfl ?_
        refine xr_iload_n d_M_take_173 rfl ?_
        refine xr_aload_n d_M_take_174 rfl ?_
        refine xr_getf d_M_take_175 xf_5_91 hW.ref rfl ?_
        refine kr_ist hW (f := 18) (by decide) rfl d_M_take_178 (n := u) rfl (show u < 6 by omega) (fun h9s hW he9 => ?_)
        have he2 := he9.trans he1
        refine xr_aload_n d_M_take_179 rfl ?_
        refine xr_getf d_M_take_180 xf_5_42 hW.ref rfl ?_
        refine xr_iload_n d_M_take_183 rfl ?_
        refine xr_iconst (v := 2) d_M_take_184 rfl ?_
        refine kr_ist hW (f := 9) (by decide) rfl d_M_take_185 (n := b) rfl (show b < 120 by omega) (fun h9s hW he9 => ?_)
        have he3 := he9.trans he2
        refine xr_aload_n d_M_take_186 rfl ?_
        refine xr_getf d_M_take_187 xf_5_45 hW.ref rfl ?_
        refine xr_iload_n d_M_take_190 rfl ?_
        refine xr_aload_n d_M_take_191 rfl ?_
        refine xr_getf d_M_take_192 xf_5_91 hW.ref rfl ?_
        refine kr_ist hW (f := 10) (by decide) rfl d_M_take_195 (n := b) rfl (show b < 120 by omega) (fun h9s hW he9 => ?_)
        have he4 := he9.trans he3
        refine xr_aload_n d_M_take_196 rfl ?_
        refine xr_getf d_M_take_197 xf_5_48 hW.ref rfl ?_
        refine xr_iload_n d_M_take_200 rfl ?_
        refine xr_dup2 d_M_take_201 rfl rfl ?_
        refine kr_ild hW (f := 11) (by decide) rfl d_M_take_202 (n := b) rfl (show b < 120 by omega) ?_
        refine xr_iconst (v := 1) d_M_take_203 rfl ?_
        refine xr_iadd d_M_take_204 ?_
        refine kr_ist hW (f := 11) (by decide) rfl d_M_take_205 (n := b) rfl (show b < 120 by omega) (fun h9s hW he9 => ?_)
        have he5 := he9.trans he4
        refine xr_iload_n d_M_take_206 rfl ?_
        refine xr_ireturn d_M_take_207 rfl rfl rfl ?_
        have w := o_take_S hu hr6 h19 hB0
        rw [w]
        exact ⟨_, rfl, rfl, hW, he5.trans he⟩
      · have hxl : x < 12 * kq m := k_ge_lt (by omega) (by omega) c37
        refine xr_aload_n d_M_take_40 rfl ?_
        refine xr_getf d_M_take_41 xf_5_42 hW.ref rfl ?_
        refine xr_iload_n d_M_take_44 rfl ?_
        refine kr_ild hW (f := 9) (by decide) rfl d_M_take_45 (n := x) rfl (show x < 120 by omega) ?_
        refine xr_iconst (v := 1) d_M_take_46 rfl ?_
        refine xr_icmp_ne (tgt := 149) d_M_take_47 rfl (fun c47 => ?_) (fun c47 => ?_)
        · have hst := hk.trans (if_neg (fun q => c47 q.1))
          refine xr_iinc1 d_M_take_149 rfl ?_
          refine xr_goto (tgt := 29) d_M_take_152 rfl ?_
          rw [nI_1]
          have z := fun y w => ih (x + 1) y w (by omega) (by omega)
          simp only [hst] at z
          exact z _ _
        · refine xr_aload_n d_M_take_50 rfl ?_
          refine xr_getf d_M_take_51 xf_5_13 hW.ref rfl ?_
          refine xr_iload_n d_M_take_54 rfl ?_
          refine xr_bipush (v := 12) d_M_take_55 rfl ?_
          refine xr_irem d_M_take_57 (by decide) ?_
          rw [k12r (by omega)]
          refine kr_ild hW (f := 0) (by decide) rfl d_M_take_58 (n := x % 12) rfl (show x % 12 < 12 by omega) ?_
          refine xr_aload_n d_M_take_59 rfl ?_
          refine xr_getf d_M_take_60 xf_5_66 hW.ref rfl ?_
          refine xr_iload_n d_M_take_63 rfl ?_
          refine kr_ild hW (f := 17) (by decide) rfl d_M_take_64 (n := u) rfl (show u < 6 by omega) ?_
          refine xr_iconst (v := -1) d_M_take_65 rfl ?_
          refine xr_ixor d_M_take_66 ?_
          refine xr_iand d_M_take_67 ?_
          refine xr_if_eq (tgt := 74) d_M_take_68 rfl (fun c68 => ?_) (fun c68 => ?_)
          · have hk := hk.trans (if_pos ⟨c47, c68⟩)
            refine xr_aload_n d_M_take_74 rfl ?_
            refine xr_getf d_M_take_75 xf_5_33 hW.ref rfl ?_
            refine xr_iload_n d_M_take_78 rfl ?_
            refine xr_bipush (v := 12) d_M_take_79 rfl ?_
            refine xr_idiv d_M_take_81 (by decide) ?_
            rw [k12d (by omega)]
            refine kr_ild hW (f := 6) (by decide) rfl d_M_take_82 (n := x / 12) rfl (show x / 12 < 10 by omega) ?_
            refine xr_istore d_M_take_83 (Nat.le_of_ble_eq_true rfl) ?_
            refine xr_iload_n d_M_take_85 rfl ?_
            refine xr_iconst (v := -1) d_M_take_86 rfl ?_
            refine xr_icmp_ne (tgt := 94) d_M_take_87 rfl (fun _ => ?_) (fun n9 => absurd n9 hbn)
            refine xr_aload_n d_M_take_94 rfl ?_
            refine xr_getf d_M_take_95 xf_5_33 hW.ref rfl ?_
            refine xr_iload_n d_M_take_98 rfl ?_
            refine xr_bipush (v := 12) d_M_take_99 rfl ?_
            refine xr_idiv d_M_take_101 (by decide) ?_
            rw [k12d (by omega)]
            refine kr_ild hW (f := 6) (by decide) rfl d_M_take_102 (n := b / 12) rfl (show b / 12 < 10 by omega) ?_
            refine xr_istore d_M_take_103 (Nat.le_of_ble_eq_true rfl) ?_
            refine xr_iload_n d_M_take_105 rfl ?_
            refine xr_iconst (v := -1) d_M_take_106 rfl ?_
            refine xr_icmp_eq (tgt := 147) d_M_take_107 rfl (fun n9 => absurd n9 hbn) (fun _ => ?_)
            refine xr_aload_n d_M_take_110 rfl ?_
            refine xr_iload d_M_take_111 rfl ?_
            refine xr_V1i d_M_take_113 xv_5_127 hW.ref rfl rfl (Nat.le_of_ble_eq_true rfl) (by decide) (q_busy hW hB) (fun v h9s h9 => ?_)
            obtain ⟨rfl, e9⟩ := h9
            have e9 := e9.symm
            subst e9
            refine xr_aload_n d_M_take_116 rfl ?_
            refine xr_iload d_M_take_117 rfl ?_
            refine xr_V1i d_M_take_119 xv_5_127 hW.ref rfl rfl (Nat.le_of_ble_eq_true rfl) (by decide) (q_busy hW hB) (fun v h9s h9 => ?_)
            obtain ⟨rfl, e9⟩ := h9
            have e9 := e9.symm
            subst e9
            have hb1 : k_busy m (kF m 6 (x / 12)) ≤ 12 * kq m := k_busyN_le m _ _
            have hb2 : k_busy m (kF m 6 (b / 12)) ≤ 12 * kq m := k_busyN_le m _ _
            refine xr_icmp_lt (tgt := 147) d_M_take_122 rfl (fun c122 => ?_) (fun c122 => ?_)
            · have hk := hk.trans (if_pos (Or.inl (k_ge_lt (by omega) (by omega) (ki_nle.mpr c122))))
              refine xr_iload_n d_M_take_147 rfl ?_
              refine xr_istore_n d_M_take_148 (Nat.le_of_ble_eq_true rfl) ?_
              have hst := hk
              refine xr_iinc1 d_M_take_149 rfl ?_
              refine xr_goto (tgt := 29) d_M_take_152 rfl ?_
              rw [nI_1]
              have z := fun y w => ih (x + 1) y w (by omega) (by omega)
              simp only [hst] at z
              exact z _ _
            · have hge := k_ge_ge (a := k_busy m (kF m 6 (x / 12))) (b := k_busy m (kF m 6 (b / 12))) (by omega) (ki_nlt.mp c122)
              refine xr_aload_n d_M_take_125 rfl ?_
              refine xr_iload d_M_take_126 rfl ?_
              refine xr_V1i d_M_take_128 xv_5_127 hW.ref rfl rfl (Nat.le_of_ble_eq_true rfl) (by decide) (q_busy hW hB) (fun v h9s h9 => ?_)
              obtain ⟨rfl, e9⟩ := h9
              have e9 := e9.symm
              subst e9
              refine xr_aload_n d_M_take_131 rfl ?_
              refine xr_iload d_M_take_132 rfl ?_
              refine xr_V1i d_M_take_134 xv_5_127 hW.ref rfl rfl (Nat.le_of_ble_eq_true rfl) (by decide) (q_busy hW hB) (fun v h9s h9 => ?_)
              obtain ⟨rfl, e9⟩ := h9
              have e9 := e9.symm
              subst e9
              refine xr_icmp_ne (tgt := 149) d_M_take_137 rfl (fun c137 => ?_) (fun c137 => ?_)
              · have hst := hk.trans (if_neg (fun z => z.elim (fun y => by omega) (fun y => c137 (by rw [y.1]))))
                refine xr_iinc1 d_M_take_149 rfl ?_
                refine xr_goto (tgt := 29) d_M_take_152 rfl ?_
                rw [nI_1]
                have z := fun y w => ih (x + 1) y w (by omega) (by omega)
                simp only [hst] at z
                exact z _ _
              · have heq := (nI_eq (by omega) (by omega)).mp c137
                refine xr_iload d_M_take_140 rfl ?_
                refine xr_iload d_M_take_142 rfl ?_
                refine xr_icmp_ge (tgt := 149) d_M_take_144 rfl (fun c144 => ?_) (fun c144 => ?_)
                · have hst := hk.trans (if_neg (fun z => z.elim (fun y => by omega) (fun y => ki_nlt.mpr c144 y.2)))
                  refine xr_iinc1 d_M_take_149 rfl ?_
                  refine xr_goto (tgt := 29) d_M_take_152 rfl ?_
                  rw [nI_1]
                  have z := fun y w => ih (x + 1) y w (by omega) (by omega)
                  simp only [hst] at z
                  exact z _ _
                · have hk := hk.trans (if_pos (Or.inr ⟨heq, ki_nle.mp c144⟩))
                  refine xr_iload_n d_M_take_147 rfl ?_
                  refine xr_istore_n d_M_take_148 (Nat.le_of_ble_eq_true rfl) ?_
                  have hst := hk
                  refine xr_iinc1 d_M_take_149 rfl ?_
                  refine xr_goto (tgt := 29) d_M_take_152 rfl ?_
                  rw [nI_1]
                  have z := fun y w => ih (x + 1) y w (by omega) (by omega)
                  simp only [hst] at z
                  exact z _ _
          · have hst := hk.trans (if_neg (fun q => c68 q.2))
            refine xr_goto (tgt := 149) d_M_take_71 rfl ?_
            refine xr_iinc1 d_M_take_149 rfl ?_
            refine xr_goto (tgt := 29) d_M_take_152 rfl ?_
            rw [nI_1]
            have z := fun y w => ih (x + 1) y w (by omega) (by omega)
            simp only [hst] at z
            exact z _ _
theorem m_take {g : xm_G} {h : xm_H} {c m : kS} {R : Nat → Option Nat} {A : kA} (hW : kW c R m A h) (hB : kMb m) {a : Int32} : xm_S g 1 m_M_take (xm_entry m_M_take [.ref (A 6 0), .int a]) h (xq_i fun v h' => v = (o_take m a).2 ∧ kW c R (o_take m a).1 A h' ∧ h'.2 = h.2) := by
  show xm_S g 1 m_M_take (0, [some (.ref (A 6 0)), some (.int a), none, none, none, none], []) h _
  refine xr_aload_n d_M_take_0 rfl ?_
  refine xr_iconst (v := 0) d_M_take_1 rfl ?_
  refine kr_pm (m' := m) hW d_M_take_2 xf_5_75 (by decide) rfl rfl (fun h1 hW he0 => ?_)
  refine xr_aload_n d_M_take_5 rfl ?_
  refine xr_iload_n d_M_take_6 rfl ?_
  refine xr_V1i d_M_take_7 xv_5_124 hW.ref rfl rfl (Nat.le_of_ble_eq_true rfl) (by decide) (q_isRunner hW) (fun v h2 h9 => ?_)
  obtain ⟨rfl, e9⟩ := h9
  have e9 := e9.symm
  subst e9
  refine xr_if_eq (tgt := 23) d_M_take_10 rfl (fun c10 => ?_) (fun c10 => ?_)
  · have w : o_take m a = (m, -1) := if_neg (fun q => kbi_0.mp c10 q.1)
    refine xr_iconst (v := -1) d_M_take_23 rfl ?_
    refine xr_ireturn d_M_take_24 rfl rfl rfl ?_
    rw [w]
    exact ⟨_, rfl, rfl, hW, he0⟩
  · have hin := kbi_n0 c10
    obtain ⟨u, hu, rfl⟩ := k_in_ex (by omega) (kbi_n0 c10)
    have hnu : k_n (nI u) = u := nI_clamp (by omega)
    refine xr_aload_n d_M_take_13 rfl ?_
    refine xr_getf d_M_take_14 xf_5_72 hW.ref rfl ?_
    refine xr_iload_n d_M_take_17 rfl ?_
    refine kr_ild hW (f := 19) (by decide) rfl d_M_take_18 (n := u) rfl (show u < 6 by omega) ?_
    refine xr_iconst (v := -1) d_M_take_19 rfl ?_
    refine xr_icmp_eq (tgt := 25) d_M_take_20 rfl (fun c20 => ?_) (fun c20 => ?_)
    · refine xr_iconst (v := -1) d_M_take_25 rfl ?_
      refine xr_istore_n d_M_take_26 (Nat.le_of_ble_eq_true rfl) ?_
      refine xr_iconst (v := 0) d_M_take_27 rfl ?_
      refine xr_istore_n d_M_take_28 (Nat.le_of_ble_eq_true rfl) ?_
      exact ql_take (h0 := h) hW he0 hB hu hB.2.1 c20 (12 * kq m + 1) 0 none none (by omega) (by omega)
    · have w : o_take m (nI u) = (m, -1) := if_neg (fun q => c20 (by have z := q.2; rw [hnu] at z; exact z))
      refine xr_iconst (v := -1) d_M_take_23 rfl ?_
      refine xr_ireturn d_M_take_24 rfl rfl rfl ?_
      rw [w]
      exact ⟨_, rfl, rfl, hW, he0⟩
theorem q_pass {g : xm_G} {h : xm_H} {c m : kS} {R : Nat → Option Nat} {A : kA} (hW : kW c R m A h) (hB : kMb m) {R0 : Nat → Option Nat} (hI : kI m R0) {x : Nat} (hx : x < 120) : xm_S g 2 m_M_pass (xm_entry m_M_pass [.ref (A 6 0), .int (nI x)]) h (xq_v fun h' => kW c R (k_pass m x) A h' ∧ h'.2 = h.2) := by
  show xm_S g 2 m_M_pass (0, [some (.ref (A 6 0)), some (.int (nI x)), none], []) h _
  refine xr_aload_n d_M_pass_0 rfl ?_
  refine xr_getf d_M_pass_1 xf_5_42 hW.ref rfl ?_
  refine xr_iload_n d_M_pass_4 rfl ?_
  refine kr_ild hW (f := 9) (by decide) rfl d_M_pass_5 (n := x) rfl (show x < 120 from hx) ?_
  refine xr_iconst (v := 2) d_M_pass_6 rfl ?_
  refine xr_icmp_eq (tgt := 11) d_M_pass_7 rfl (fun c7 => ?_) (fun c7 => ?_)
  · obtain ⟨u, hR⟩ := hI.run2 c7
    have hu := (hI.2.1 x u hR).2.1
    have hro : k_rof m x = nI u := by rw [hI.rof (by omega), hR]; rfl
    have hk : k_pass m x = if k_lat m u then k_lose m x else if k_lim m x then k_fail m x else m := by
      unfold k_pass
      rw [if_pos c7, hro, show k_n (nI u) = u from nI_clamp (by omega)]
    refine xr_iload_n d_M_pass_11 rfl ?_
    refine xr_bipush (v := 12) d_M_pass_12 rfl ?_
    refine xr_irem d_M_pass_14 (by decide) ?_
    rw [k12r (by omega)]
    refine xr_istore_n d_M_pass_15 (Nat.le_of_ble_eq_true rfl) ?_
    refine xr_aload_n d_M_pass_16 rfl ?_
    refine xr_getf d_M_pass_17 xf_5_91 hW.ref rfl ?_
    refine xr_aload_n d_M_pass_20 rfl ?_
    refine xr_getf d_M_pass_21 xf_5_69 hW.ref rfl ?_
    refine xr_aload_n d_M_pass_24 rfl ?_
    refine xr_iload_n d_M_pass_25 rfl ?_
    refine xr_V1i d_M_pass_26 xv_5_134 hW.ref rfl rfl (Nat.le_of_ble_eq_true rfl) (by decide) (q_runnerOf hW hB (x := x)) (fun v h9s h9 => ?_)
    obtain ⟨rfl, e9⟩ := h9
    have e9 := e9.symm
    subst e9
    rw [hro]
    refine kr_ild hW (f := 18) (by decide) rfl d_M_pass_29 (n := u) rfl (show u < 6 by omega) ?_
    refine xr_isub d_M_pass_30 ?_
    refine xr_aload_n d_M_pass_31 rfl ?_
    refine xr_getf d_M_pass_32 xf_5_7 hW.ref rfl ?_
    refine xr_icmp_le (tgt := 87) d_M_pass_35 rfl (fun c35 => ?_) (fun c35 => ?_)
    · have hk := hk.trans (if_neg (ki_nlt.mpr c35))
      refine xr_aload_n d_M_pass_87 rfl ?_
      refine xr_getf d_M_pass_88 xf_5_17 hW.ref rfl ?_
      refine xr_iload_n d_M_pass_91 rfl ?_
      refine kr_ild hW (f := 1) (by decide) rfl d_M_pass_92 (n := x % 12) rfl (show x % 12 < 12 by omega) ?_
      refine xr_if_le (tgt := 121) d_M_pass_93 rfl (fun c93 => ?_) (fun c93 => ?_)
      · have w := hk.trans (if_neg (fun q => ki_nlt.mpr c93 q.1))
        have he : h.2 = h.2 := rfl
        refine xr_return d_M_pass_121 rfl rfl ?_
        exact ⟨rfl, by rw [w]; exact hW, he⟩
      · refine xr_aload_n d_M_pass_96 rfl ?_
        refine xr_getf d_M_pass_97 xf_5_91 hW.ref rfl ?_
        refine xr_aload_n d_M_pass_100 rfl ?_
        refine xr_getf d_M_pass_101 xf_5_45 hW.ref rfl ?_
        refine xr_iload_n d_M_pass_104 rfl ?_
        refine kr_ild hW (f := 10) (by decide) rfl d_M_pass_105 (n := x) rfl (show x < 120 from hx) ?_
        refine xr_isub d_M_pass_106 ?_
        refine xr_aload_n d_M_pass_107 rfl ?_
        refine xr_getf d_M_pass_108 xf_5_17 hW.ref rfl ?_
        refine xr_iload_n d_M_pass_111 rfl ?_
        refine kr_ild hW (f := 1) (by decide) rfl d_M_pass_112 (n := x % 12) rfl (show x % 12 < 12 by omega) ?_
        refine xr_icmp_lt (tgt := 121) d_M_pass_113 rfl (fun c113 => ?_) (fun c113 => ?_)
        · have w := hk.trans (if_neg (fun q => ki_nle.mpr c113 q.2))
          have he : h.2 = h.2 := rfl
          refine xr_return d_M_pass_121 rfl rfl ?_
          exact ⟨rfl, by rw [w]; exact hW, he⟩
        · have w := hk.trans (if_pos ⟨ki_nle.mp c93, ki_nlt.mp c113⟩)
          refine xr_aload_n d_M_pass_116 rfl ?_
          refine xr_iload_n d_M_pass_117 rfl ?_
          refine xr_V1v d_M_pass_118 xv_5_131 hW.ref rfl rfl (Nat.le_of_ble_eq_true rfl) (by decide) (q_failTry hW hB (x := x) hx) (fun h9s h9 => ?_)
          obtain ⟨hW, he⟩ := h9
          refine xr_return d_M_pass_121 rfl rfl ?_
          exact ⟨rfl, by rw [w]; exact hW, he⟩
    · have w := hk.trans (if_pos (ki_nle.mp c35))
      refine xr_aload_n d_M_pass_38 rfl ?_
      refine xr_getf d_M_pass_39 xf_5_54 hW.ref rfl ?_
      refine xr_iload_n d_M_pass_42 rfl ?_
      refine xr_dup2 d_M_pass_43 rfl rfl ?_
      refine kr_ild hW (f := 13) (by decide) rfl d_M_pass_44 (n := x) rfl (show x < 120 from hx) ?_
      refine xr_iconst (v := 1) d_M_pass_45 rfl ?_
      refine xr_iadd d_M_pass_46 ?_
      refine kr_ist hW (f := 13) (by decide) rfl d_M_pass_47 (n := x) rfl (show x < 120 from hx) (fun h9s hW he9 => ?_)
      have he1 := he9
      refine xr_aload_n d_M_pass_48 rfl ?_
      refine xr_getf d_M_pass_49 xf_5_57 hW.ref rfl ?_
      refine xr_iload_n d_M_pass_52 rfl ?_
      refine xr_dup2 d_M_pass_53 rfl rfl ?_
      refine kr_ild hW (f := 14) (by decide) rfl d_M_pass_54 (n := x) rfl (show x < 120 from hx) ?_
      rw [kw_F, if_neg (fun q => absurd q.1 (by decide))]
      refine xr_iconst (v := 1) d_M_pass_55 rfl ?_
      refine xr_iadd d_M_pass_56 ?_
      refine kr_ist hW (f := 14) (by decide) rfl d_M_pass_57 (n := x) rfl (show x < 120 from hx) (fun h9s hW he9 => ?_)
      have he2 := he9.trans he1
      refine xr_aload_n d_M_pass_58 rfl ?_
      refine xr_getf d_M_pass_59 xf_5_42 hW.ref rfl ?_
      refine xr_iload_n d_M_pass_62 rfl ?_
      refine xr_aload_n d_M_pass_63 rfl ?_
      refine xr_getf d_M_pass_64 xf_5_57 hW.ref rfl ?_
      refine xr_iload_n d_M_pass_67 rfl ?_
      refine kr_ild hW (f := 14) (by decide) rfl d_M_pass_68 (n := x) rfl (show x < 120 from hx) ?_
      rw [kw_F, if_pos ⟨rfl, rfl⟩]
      refine xr_iconst (v := 1) d_M_pass_69 rfl ?_
      refine xr_icmp_le (tgt := 77) d_M_pass_70 rfl (fun c70 => ?_) (fun c70 => ?_)
      · have hv : (if 1 < kF m 14 x + 1 then (4 : Int32) else 1) = 1 := if_neg (ki_nlt.mpr c70)
        refine xr_iconst (v := 1) d_M_pass_77 rfl ?_
        refine kr_ist hW (f := 9) (by decide) rfl d_M_pass_78 (n := x) rfl (show x < 120 from hx) (fun h9s hW he9 => ?_)
        have he3 := he9.trans he2
        refine xr_aload_n d_M_pass_79 rfl ?_
        refine xr_iload_n d_M_pass_80 rfl ?_
        refine xr_V1v d_M_pass_81 xv_5_104 hW.ref rfl rfl (Nat.le_of_ble_eq_true rfl) (by decide) (q_free hW hB (x := x)) (fun h9s h9 => ?_)
        obtain ⟨hW, he4⟩ := h9
        have he := he4.trans he3
        have hW : kW c R (k_lose m x) A h9s := by unfold k_lose; rw [hv]; exact hW
        refine xr_goto (tgt := 121) d_M_pass_84 rfl ?_
        refine xr_return d_M_pass_121 rfl rfl ?_
        exact ⟨rfl, by rw [w]; exact hW, he⟩
      · have hv : (if 1 < kF m 14 x + 1 then (4 : Int32) else 1) = 4 := if_pos (ki_nle.mp c70)
        refine xr_iconst (v := 4) d_M_pass_73 rfl ?_
        refine xr_goto (tgt := 78) d_M_pass_74 rfl ?_
        refine kr_ist hW (f := 9) (by decide) rfl d_M_pass_78 (n := x) rfl (show x < 120 from hx) (fun h9s hW he9 => ?_)
        have he3 := he9.trans he2
        refine xr_aload_n d_M_pass_79 rfl ?_
        refine xr_iload_n d_M_pass_80 rfl ?_
        refine xr_V1v d_M_pass_81 xv_5_104 hW.ref rfl rfl (Nat.le_of_ble_eq_true rfl) (by decide) (q_free hW hB (x := x)) (fun h9s h9 => ?_)
        obtain ⟨hW, he4⟩ := h9
        have he := he4.trans he3
        have hW : kW c R (k_lose m x) A h9s := by unfold k_lose; rw [hv]; exact hW
        refine xr_goto (tgt := 121) d_M_pass_84 rfl ?_
        refine xr_return d_M_pass_121 rfl rfl ?_
        exact ⟨rfl, by rw [w]; exact hW, he⟩
  · have w : k_pass m x = m := if_neg c7
    refine xr_return d_M_pass_10 rfl rfl ?_
    exact ⟨rfl, by rw [w]; exact hW, rfl⟩
theorem ql_tick2 {g : xm_G} {h0 : xm_H} {c : kS} {R : Nat → Option Nat} {A : kA} {s : kS} (hB : kMb s) {N i : Nat} {Q : Option Value → xm_H → Prop} (hQ : ∀ (h : xm_H) (R0 : Nat → Option Nat) (x3 : Option Value), kW c R (k_passN s (12 * kq s)) A h → kI (k_passN s (12 * kq s)) R0 → h.2 = h0.2 → xm_S g 4 m_M_tick (59, [some (.ref (A 6 0)), some (.int (nI N)), some (.int (nI i)), x3], []) h Q) : ∀ (n : Nat) (x : Nat) (R0 : Nat → Option Nat) (h : xm_H), kW c R (k_passN s x) A h → kI (k_passN s x) R0 → h.2 = h0.2 → x ≤ 12 * kq s → 12 * kq s < x + n → xm_S g 4 m_M_tick (37, [some (.ref (A 6 0)), some (.int (nI N)), some (.int (nI i)), some (.int (nI x))], []) h (Q) := by
  intro n
  induction n with
  | zero => intros; omega
  | succ n ih =>
    intro x R0 h hW hI he h1 h2
    have e1 := k_passN_1 s x
    obtain ⟨R1, hI1⟩ := hI.pass x
    have hk : k_passN s (x + 1) = k_pass (k_passN s x) x := rfl
    generalize hC : k_passN s x = C at *
    have hkq : kq C = kq s := congrArg (fun z => z.2.2) e1
    have hBC : kMb C := by unfold kMb kj kr kq at *; rw [e1]; exact hB
    rw [← hkq] at h1 h2
    refine xr_iload_n d_M_tick_37 rfl ?_
    refine xr_bipush (v := 12) d_M_tick_38 rfl ?_
    refine xr_aload_n d_M_tick_40 rfl ?_
    refine xr_getf d_M_tick_41 xf_5_81 hW.ref rfl ?_
    refine xr_imul d_M_tick_44 ?_
    rw [k12m]
    refine xr_icmp_ge (tgt := 59) d_M_tick_45 rfl (fun c45 => ?_) (fun c45 => ?_)
    · have hre : x = 12 * kq C := by have := k_ge_ge (by omega) c45; omega
      have hCe : k_passN s (12 * kq s) = C := by rw [← hkq, ← hre]; exact hC
      exact hQ h R0 _ (by rw [hCe]; exact hW) (by rw [hCe]; exact hI) he
    · have hxl : x < 12 * kq C := k_ge_lt (by omega) (by omega) c45
      refine xr_aload_n d_M_tick_48 rfl ?_
      refine xr_iload_n d_M_tick_49 rfl ?_
      refine xr_V1v d_M_tick_50 xv_5_137 hW.ref rfl rfl (Nat.le_of_ble_eq_true rfl) (by decide) (q_pass hW hBC hI (x := x) (by omega)) (fun h9s h9 => ?_)
      obtain ⟨hW, he1⟩ := h9
      refine xr_iinc1 d_M_tick_53 rfl ?_
      refine xr_goto (tgt := 37) d_M_tick_56 rfl ?_
      rw [nI_1]
      exact ih (x + 1) R1 _ (by rw [hk]; exact hW) (by rw [hk]; exact hI1) (he1.trans he) (by omega) (by omega)
theorem ql_tick {g : xm_G} {h0 : xm_H} {c m : kS} {R : Nat → Option Nat} {A : kA} (hB : kMb m) {N : Nat} (hN : N < 1001) : ∀ (n : Nat) (i : Nat) (R0 : Nat → Option Nat) (x3 : Option Value) (h : xm_H), kW c R (k_tickN m i) A h → kI (k_tickN m i) R0 → h.2 = h0.2 → i ≤ N → N < i + n → xm_S g 4 m_M_tick (20, [some (.ref (A 6 0)), some (.int (nI N)), some (.int (nI i)), x3], []) h (xq_i fun v h' => v = kc (k_settle (k_tickN m N)) ∧ kW c R (k_settle (k_tickN m N)) A h' ∧ h'.2 = h0.2) := by
  intro n
  induction n with
  | zero => intros; omega
  | succ n ih =>
    intro i R0 x3 h hW hI he h1 h2
    have e1 := k_tickN_1 m i
    have hk : k_tickN m (i + 1) = k_tick1 (k_tickN m i) := rfl
    generalize hC : k_tickN m i = C at *
    have hBC : kMb C := by unfold kMb kj kr kq at *; rw [e1]; exact hB
    refine xr_iload_n d_M_tick_20 rfl ?_
    refine xr_iload_n d_M_tick_21 rfl ?_
    refine xr_icmp_ge (tgt := 65) d_M_tick_22 rfl (fun c22 => ?_) (fun c22 => ?_)
    · have hie : i = N := by have := k_ge_ge (by omega) c22; omega
      have hCe : k_tickN m N = C := by rw [← hie]; exact hC
      refine xr_aload_n d_M_tick_65 rfl ?_
      refine xr_V0v d_M_tick_66 xv_5_114 hW.ref rfl (Nat.le_of_ble_eq_true rfl) (by decide) (q_settle hW hBC) (fun h9s h9 => ?_)
      obtain ⟨hW, he7⟩ := h9
      refine xr_aload_n d_M_tick_69 rfl ?_
      refine xr_getf d_M_tick_70 xf_5_91 hW.ref rfl ?_
      refine xr_ireturn d_M_tick_73 rfl rfl rfl ?_
      refine ⟨_, rfl, ?_, ?_, he7.trans he⟩
      · rw [hCe]
      · rw [hCe]; exact hW
    · have hil : i < N := k_ge_lt (by omega) (by omega) c22
      refine xr_aload_n d_M_tick_25 rfl ?_
      refine xr_dup d_M_tick_26 rfl ?_
      refine xr_getf d_M_tick_27 xf_5_91 hW.ref rfl ?_
      refine xr_iconst (v := 1) d_M_tick_30 rfl ?_
      refine xr_iadd d_M_tick_31 ?_
      refine kr_pm (m' := kck C (kc C + 1)) hW d_M_tick_32 xf_5_91 (by decide) rfl rfl (fun h9s hW he9 => ?_)
      have hI : kI (kck C (kc C + 1)) R0 := hI.clk _
      refine xr_iconst (v := 0) d_M_tick_35 rfl ?_
      refine xr_istore_n d_M_tick_36 (Nat.le_of_ble_eq_true rfl) ?_
      refine ql_tick2 (h0 := h0) (s := kck C (kc C + 1)) hBC (fun h R1 x3 hW hI he => ?_) (12 * kq C + 1) 0 R0 _ hW hI (he9.trans he) (by omega) (by show 12 * kq C < _; omega)
      have hst : k_tickN m (i + 1) = k_passN (kck C (kc C + 1)) (12 * kq C) := hk
      refine xr_iinc1 d_M_tick_59 rfl ?_
      refine xr_goto (tgt := 20) d_M_tick_62 rfl ?_
      rw [nI_1]
      exact ih (i + 1) R1 _ _ (by rw [hst]; exact hW) (by rw [hst]; exact hI) he (by omega) (by omega)
theorem m_tick {g : xm_G} {h : xm_H} {c m : kS} {R : Nat → Option Nat} {A : kA} (hW : kW c R m A h) (hB : kMb m) {R0 : Nat → Option Nat} (hI : kI m R0) {a : Int32} : xm_S g 4 m_M_tick (xm_entry m_M_tick [.ref (A 6 0), .int a]) h (xq_i fun v h' => v = (o_tick m a).2 ∧ kW c R (o_tick m a).1 A h' ∧ h'.2 = h.2) := by
  show xm_S g 4 m_M_tick (0, [some (.ref (A 6 0)), some (.int a), none, none], []) h _
  refine xr_aload_n d_M_tick_0 rfl ?_
  refine xr_iconst (v := 0) d_M_tick_1 rfl ?_
  refine kr_pm (m' := m) hW d_M_tick_2 xf_5_75 (by decide) rfl rfl (fun h1 hW he0 => ?_)
  refine xr_iload_n d_M_tick_5 rfl ?_
  refine xr_if_lt (tgt := 16) d_M_tick_6 rfl (fun c6 => ?_) (fun c6 => ?_)
  · have w : o_tick m a = (m, -1) := if_pos (Or.inl c6)
    refine xr_iconst (v := -1) d_M_tick_16 rfl ?_
    refine xr_ireturn d_M_tick_17 rfl rfl rfl ?_
    rw [w]
    exact ⟨_, rfl, rfl, hW, he0⟩
  · refine xr_iload_n d_M_tick_9 rfl ?_
    refine xr_sipush (v := 1000) d_M_tick_10 rfl ?_
    refine xr_icmp_le (tgt := 18) d_M_tick_13 rfl (fun c13 => ?_) (fun c13 => ?_)
    · obtain ⟨N, hN, rfl⟩ := k_in_ex (v := a) (n := 1001) (by decide) ⟨c6, k_le1000 c13⟩
      have w : o_tick m (nI N) = (k_settle (k_tickN m N), kc (k_settle (k_tickN m N))) := by
        unfold o_tick
        rw [show k_n (nI N) = N from nI_clamp (by omega), if_neg (fun q => q.elim c6 (ki_nlt.mpr c13))]
      refine xr_iconst (v := 0) d_M_tick_18 rfl ?_
      refine xr_istore_n d_M_tick_19 (Nat.le_of_ble_eq_true rfl) ?_
      rw [w]
      dsimp only
      exact ql_tick (h0 := h) hB hN (N + 1) 0 R0 none h1 hW hI he0 (by omega) (by omega)
    · have w : o_tick m a = (m, -1) := if_pos (Or.inr (ki_nle.mp c13))
      refine xr_iconst (v := -1) d_M_tick_16 rfl ?_
      refine xr_ireturn d_M_tick_17 rfl rfl rfl ?_
      rw [w]
      exact ⟨_, rfl, rfl, hW, he0⟩
end
