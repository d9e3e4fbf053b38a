/-! names and tables, by program (wip/whole/names.py) out of the claim's own words and listing -/
def xt_ws : List Cond := lw_tbl.filter goodWord
theorem xt_in (i : Nat) {w : Cond} (h : lw_tbl[i]? = some w) (hg : goodWord w = true) : w ∈ xt_ws := List.mem_filter.mpr ⟨List.mem_of_getElem? h, hg⟩
theorem xt_good : ∀ w ∈ xt_ws, (w.onTables && w.keeps) = true ∨ ∃ ty, w = .arrayClass ty := fun _ h => good_of_word (List.mem_filter.mp h).2
def xT0 : u_T := fun k => match k with
  | 0 => ("JobStates$Job", "labels", "I", true)
  | 1 => ("JobStates$Job", "limit", "I", true)
  | 2 => ("JobStates$Job", "retries", "I", true)
  | 3 => ("JobStates$Job", "always", "Z", true)
  | 4 => ("JobStates$Job", "approval", "Z", true)
  | _ => ("JobStates$Job", "needed", "I", false)
def xy0 : Nat → FieldType := fun k => match k with
  | 0 => .int
  | 1 => .int
  | 2 => .int
  | 3 => .boolean
  | 4 => .boolean
  | _ => .int
theorem xn0 : ∀ a, a < 6 → ∀ b, b < 6 → a ≠ b → (xT0 a).2.1 ≠ (xT0 b).2.1 := by decide +kernel
theorem xp0 : ∀ k, k < 6 → parseFieldDescriptor (xT0 k).2.2.1 = some (xy0 k) := by decide +kernel
theorem xw0 : ∀ w ∈ u_ws "JobStates$Job" xT0 6, w ∈ xt_ws := by
  intro w hw
  have e : u_ws "JobStates$Job" xT0 6 = [94, 96, 98, 100, 102, 104].filterMap (fun i => lw_tbl[i]?) := by decide +kernel
  have g : (u_ws "JobStates$Job" xT0 6).all goodWord = true := by decide +kernel
  have hg := List.all_eq_true.mp g w hw
  rw [e] at hw
  obtain ⟨i, -, hi⟩ := List.mem_filterMap.mp hw
  exact xt_in i hi hg
def xT1 : u_T := fun k => match k with
  | 0 => ("JobStates$Run", "number", "I", true)
  | 1 => ("JobStates$Run", "person", "I", true)
  | 2 => ("JobStates$Run", "group", "I", true)
  | 3 => ("JobStates$Run", "tasks", "[LJobStates$Task;", true)
  | _ => ("JobStates$Run", "cancelled", "Z", false)
def xy1 : Nat → FieldType := fun k => match k with
  | 0 => .int
  | 1 => .int
  | 2 => .int
  | 3 => .array (.object "JobStates$Task")
  | _ => .boolean
theorem xn1 : ∀ a, a < 5 → ∀ b, b < 5 → a ≠ b → (xT1 a).2.1 ≠ (xT1 b).2.1 := by decide +kernel
theorem xp1 : ∀ k, k < 5 → parseFieldDescriptor (xT1 k).2.2.1 = some (xy1 k) := by decide +kernel
theorem xw1 : ∀ w ∈ u_ws "JobStates$Run" xT1 5, w ∈ xt_ws := by
  intro w hw
  have e : u_ws "JobStates$Run" xT1 5 = [195, 197, 199, 201, 203].filterMap (fun i => lw_tbl[i]?) := by decide +kernel
  have g : (u_ws "JobStates$Run" xT1 5).all goodWord = true := by decide +kernel
  have hg := List.all_eq_true.mp g w hw
  rw [e] at hw
  obtain ⟨i, -, hi⟩ := List.mem_filterMap.mp hw
  exact xt_in i hi hg
def xT2 : u_T := fun k => match k with
  | 0 => ("JobStates$Runner", "number", "I", true)
  | 1 => ("JobStates$Runner", "labels", "I", true)
  | 2 => ("JobStates$Runner", "beat", "I", false)
  | _ => ("JobStates$Runner", "task", "LJobStates$Task;", false)
def xy2 : Nat → FieldType := fun k => match k with
  | 0 => .int
  | 1 => .int
  | 2 => .int
  | _ => .object "JobStates$Task"
theorem xn2 : ∀ a, a < 4 → ∀ b, b < 4 → a ≠ b → (xT2 a).2.1 ≠ (xT2 b).2.1 := by decide +kernel
theorem xp2 : ∀ k, k < 4 → parseFieldDescriptor (xT2 k).2.2.1 = some (xy2 k) := by decide +kernel
theorem xw2 : ∀ w ∈ u_ws "JobStates$Runner" xT2 4, w ∈ xt_ws := by
  intro w hw
  have e : u_ws "JobStates$Runner" xT2 4 = [134, 136, 138, 140].filterMap (fun i => lw_tbl[i]?) := by decide +kernel
  have g : (u_ws "JobStates$Runner" xT2 4).all goodWord = true := by decide +kernel
  have hg := List.all_eq_true.mp g w hw
  rw [e] at hw
  obtain ⟨i, -, hi⟩ := List.mem_filterMap.mp hw
  exact xt_in i hi hg
def xT3 : u_T := fun k => match k with
  | 0 => ("JobStates$Task", "run", "LJobStates$Run;", true)
  | 1 => ("JobStates$Task", "number", "I", true)
  | 2 => ("JobStates$Task", "job", "LJobStates$Job;", true)
  | 3 => ("JobStates$Task", "state", "I", false)
  | 4 => ("JobStates$Task", "runner", "LJobStates$Runner;", false)
  | 5 => ("JobStates$Task", "startedAt", "I", false)
  | 6 => ("JobStates$Task", "approvals", "I", false)
  | 7 => ("JobStates$Task", "artefact", "I", false)
  | 8 => ("JobStates$Task", "triesBegun", "I", false)
  | 9 => ("JobStates$Task", "timesLost", "I", false)
  | 10 => ("JobStates$Task", "failedTriesSinceWaiting", "I", false)
  | _ => ("JobStates$Task", "lostSinceWaiting", "Z", false)
def xy3 : Nat → FieldType := fun k => match k with
  | 0 => .object "JobStates$Run"
  | 1 => .int
  | 2 => .object "JobStates$Job"
  | 3 => .int
  | 4 => .object "JobStates$Runner"
  | 5 => .int
  | 6 => .int
  | 7 => .int
  | 8 => .int
  | 9 => .int
  | 10 => .int
  | _ => .boolean
theorem xn3 : ∀ a, a < 12 → ∀ b, b < 12 → a ≠ b → (xT3 a).2.1 ≠ (xT3 b).2.1 := by decide +kernel
theorem xp3 : ∀ k, k < 12 → parseFieldDescriptor (xT3 k).2.2.1 = some (xy3 k) := by decide +kernel
theorem xw3 : ∀ w ∈ u_ws "JobStates$Task" xT3 12, w ∈ xt_ws := by
  intro w hw
  have e : u_ws "JobStates$Task" xT3 12 = [234, 236, 238, 240, 242, 244, 246, 248, 250, 252, 254, 256].filterMap (fun i => lw_tbl[i]?) := by decide +kernel
  have g : (u_ws "JobStates$Task" xT3 12).all goodWord = true := by decide +kernel
  have hg := List.all_eq_true.mp g w hw
  rw [e] at hw
  obtain ⟨i, -, hi⟩ := List.mem_filterMap.mp hw
  exact xt_in i hi hg
def xT4 : u_T := fun k => match k with
  | 0 => ("JobStates", "jobs", "[LJobStates$Job;", true)
  | 1 => ("JobStates", "runners", "[LJobStates$Runner;", true)
  | 2 => ("JobStates", "runs", "[LJobStates$Run;", true)
  | 3 => ("JobStates", "jobCount", "I", false)
  | 4 => ("JobStates", "runnerCount", "I", false)
  | 5 => ("JobStates", "runCount", "I", false)
  | 6 => ("JobStates", "clock", "I", false)
  | _ => ("JobStates", "lostTime", "I", false)
def xy4 : Nat → FieldType := fun k => match k with
  | 0 => .array (.object "JobStates$Job")
  | 1 => .array (.object "JobStates$Runner")
  | 2 => .array (.object "JobStates$Run")
  | 3 => .int
  | 4 => .int
  | 5 => .int
  | 6 => .int
  | _ => .int
theorem xn4 : ∀ a, a < 8 → ∀ b, b < 8 → a ≠ b → (xT4 a).2.1 ≠ (xT4 b).2.1 := by decide +kernel
theorem xp4 : ∀ k, k < 8 → parseFieldDescriptor (xT4 k).2.2.1 = some (xy4 k) := by decide +kernel
theorem xw4 : ∀ w ∈ u_ws "JobStates" xT4 8, w ∈ xt_ws := by
  intro w hw
  have e : u_ws "JobStates" xT4 8 = [55, 57, 59, 61, 63, 65, 67, 69].filterMap (fun i => lw_tbl[i]?) := by decide +kernel
  have g : (u_ws "JobStates" xT4 8).all goodWord = true := by decide +kernel
  have hg := List.all_eq_true.mp g w hw
  rw [e] at hw
  obtain ⟨i, -, hi⟩ := List.mem_filterMap.mp hw
  exact xt_in i hi hg
def xT5 : u_T := fun k => match k with
  | 0 => ("JobStatesModel", "code", "I", false)
  | 1 => ("JobStatesModel", "clock", "I", false)
  | 2 => ("JobStatesModel", "lostAt", "I", false)
  | 3 => ("JobStatesModel", "jobs", "I", false)
  | 4 => ("JobStatesModel", "runs", "I", false)
  | 5 => ("JobStatesModel", "runners", "I", false)
  | 6 => ("JobStatesModel", "labels", "[I", true)
  | 7 => ("JobStatesModel", "limit", "[I", true)
  | 8 => ("JobStatesModel", "retries", "[I", true)
  | 9 => ("JobStatesModel", "need", "[I", true)
  | 10 => ("JobStatesModel", "always", "[Z", true)
  | 11 => ("JobStatesModel", "wants", "[Z", true)
  | 12 => ("JobStatesModel", "person", "[I", true)
  | 13 => ("JobStatesModel", "group", "[I", true)
  | 14 => ("JobStatesModel", "isCancelled", "[Z", true)
  | 15 => ("JobStatesModel", "state", "[I", true)
  | 16 => ("JobStatesModel", "since", "[I", true)
  | 17 => ("JobStatesModel", "tries", "[I", true)
  | 18 => ("JobStatesModel", "failures", "[I", true)
  | 19 => ("JobStatesModel", "losses", "[I", true)
  | 20 => ("JobStatesModel", "lossesNow", "[I", true)
  | 21 => ("JobStatesModel", "artefact", "[I", true)
  | 22 => ("JobStatesModel", "approvals", "[I", true)
  | 23 => ("JobStatesModel", "runnerLabels", "[I", true)
  | 24 => ("JobStatesModel", "beat", "[I", true)
  | _ => ("JobStatesModel", "has", "[I", true)
def xy5 : Nat → FieldType := fun k => match k with
  | 0 => .int
  | 1 => .int
  | 2 => .int
  | 3 => .int
  | 4 => .int
  | 5 => .int
  | 6 => .array (.int)
  | 7 => .array (.int)
  | 8 => .array (.int)
  | 9 => .array (.int)
  | 10 => .array (.boolean)
  | 11 => .array (.boolean)
  | 12 => .array (.int)
  | 13 => .array (.int)
  | 14 => .array (.boolean)
  | 15 => .array (.int)
  | 16 => .array (.int)
  | 17 => .array (.int)
  | 18 => .array (.int)
  | 19 => .array (.int)
  | 20 => .array (.int)
  | 21 => .array (.int)
  | 22 => .array (.int)
  | 23 => .array (.int)
  | 24 => .array (.int)
  | _ => .array (.int)
theorem xn5 : ∀ a, a < 26 → ∀ b, b < 26 → a ≠ b → (xT5 a).2.1 ≠ (xT5 b).2.1 := by decide +kernel
theorem xp5 : ∀ k, k < 26 → parseFieldDescriptor (xT5 k).2.2.1 = some (xy5 k) := by decide +kernel
theorem xw5 : ∀ w ∈ u_ws "JobStatesModel" xT5 26, w ∈ xt_ws := by
  intro w hw
  have e : u_ws "JobStatesModel" xT5 26 = [445, 447, 449, 451, 453, 455, 457, 459, 461, 463, 465, 467, 469, 471, 473, 475, 477, 479, 481, 483, 485, 487, 489, 491, 493, 495].filterMap (fun i => lw_tbl[i]?) := by decide +kernel
  have g : (u_ws "JobStatesModel" xT5 26).all goodWord = true := by decide +kernel
  have hg := List.all_eq_true.mp g w hw
  rw [e] at hw
  obtain ⟨i, -, hi⟩ := List.mem_filterMap.mp hw
  exact xt_in i hi hg
def xt_nm : Nat → String := fun k => match k with
  | 0 => "JobStates$Job"
  | 1 => "JobStates$Run"
  | 2 => "JobStates$Runner"
  | 3 => "JobStates$Task"
  | 4 => "JobStates"
  | 5 => "JobStatesModel"
  | 6 => "JobStatesLaw"
  | _ => "java/lang/Integer"
abbrev xt_cl : List vw_C := [("JobStates$Job", xT0, 6), ("JobStates$Run", xT1, 5), ("JobStates$Runner", xT2, 4), ("JobStates$Task", xT3, 12), ("JobStates", xT4, 8), ("JobStatesModel", xT5, 26)]
def xt_ty : Nat → Nat → FieldType := fun c => match c with
  | 0 => xy0
  | 1 => xy1
  | 2 => xy2
  | 3 => xy3
  | 4 => xy4
  | _ => xy5
abbrev xt_at : List FieldType := [.int, .boolean, .object "JobStates$Job", .object "JobStates$Runner", .object "JobStates$Run", .object "JobStates$Task"]
theorem xt_cl_ok {ci : Nat} {C : String} {T : u_T} {N : Nat} (h : xt_cl[ci]? = some (C, T, N)) : (∀ w ∈ u_ws C T N, w ∈ xt_ws) ∧ (∀ k, k < N → parseFieldDescriptor (T k).2.2.1 = some (xt_ty ci k)) ∧ (∀ a, a < N → ∀ b, b < N → a ≠ b → (T a).2.1 ≠ (T b).2.1) ∧ Cond.instantiable C N ∈ xt_ws ∧ Cond.initialized C ∈ xt_ws := by
  match ci, h with
  | 0, h => cases h; exact ⟨xw0, xp0, xn0, xt_in 76 (by decide +kernel) rfl, xt_in 28 (by decide +kernel) rfl⟩
  | 1, h => cases h; exact ⟨xw1, xp1, xn1, xt_in 178 (by decide +kernel) rfl, xt_in 30 (by decide +kernel) rfl⟩
  | 2, h => cases h; exact ⟨xw2, xp2, xn2, xt_in 119 (by decide +kernel) rfl, xt_in 29 (by decide +kernel) rfl⟩
  | 3, h => cases h; exact ⟨xw3, xp3, xn3, xt_in 207 (by decide +kernel) rfl, xt_in 31 (by decide +kernel) rfl⟩
  | 4, h => cases h; exact ⟨xw4, xp4, xn4, xt_in 34 (by decide +kernel) rfl, xt_in 26 (by decide +kernel) rfl⟩
  | 5, h => cases h; exact ⟨xw5, xp5, xn5, xt_in 414 (by decide +kernel) rfl, xt_in 27 (by decide +kernel) rfl⟩
  | k + 6, h => simp [xt_cl] at h
def xt_fin (ci k : Nat) : Bool := match xt_cl[ci]? with
  | some q => (q.2.1 k).2.2.2
  | none => true
def xt_dec (ci k : Nat) : String := match xt_cl[ci]? with
  | some q => (q.2.1 k).1
  | none => ""
def xt_dflt (ci : Nat) : List Value := match xt_cl[ci]? with
  | some q => (List.range q.2.2).map (fun k => defaultValue (xt_ty ci k))
  | none => []
/-- a method: its name, code, locals, answer, the number of its class, how many it takes (the receiver apart) -/
abbrev xm_M : Type := MethodName × ByteArray × Nat × Option FieldType × Nat × Nat
abbrev xt_y (y : xm_M) : MethodName := y.1
abbrev xt_code (y : xm_M) : ByteArray := y.2.1
abbrev xt_maxL (y : xm_M) : Nat := y.2.2.1
abbrev xt_ret (y : xm_M) : Option FieldType := y.2.2.2.1
abbrev xt_own (y : xm_M) : Nat := y.2.2.2.2.1
abbrev xt_np (y : xm_M) : Nat := y.2.2.2.2.2
abbrev xt_LM : Nat := 30
def m_S_init : xm_M := (⟨"JobStates", "<init>", "()V"⟩, prog_1_method_1_code, 1, none, 4, 0)
def m_S_job : xm_M := (⟨"JobStates", "job", "(IIIZZ)I"⟩, prog_1_method_2_code, 7, (some (.int)), 4, 5)
def m_Job_init : xm_M := (⟨"JobStates$Job", "<init>", "(IIIZZ)V"⟩, prog_2_method_1_code, 6, none, 0, 5)
def m_S_needs : xm_M := (⟨"JobStates", "needs", "(II)Z"⟩, prog_1_method_3_code, 4, (some (.boolean)), 4, 2)
def m_Job_isNeeding : xm_M := (⟨"JobStates$Job", "isNeeding", "(I)Z"⟩, prog_2_method_2_code, 2, (some (.boolean)), 0, 1)
def m_S_runner : xm_M := (⟨"JobStates", "runner", "(I)I"⟩, prog_1_method_4_code, 3, (some (.int)), 4, 1)
def m_Rnr_init : xm_M := (⟨"JobStates$Runner", "<init>", "(III)V"⟩, prog_4_method_1_code, 4, none, 2, 3)
def m_S_lost : xm_M := (⟨"JobStates", "lost", "(I)Z"⟩, prog_1_method_5_code, 2, (some (.boolean)), 4, 1)
def m_S_trigger : xm_M := (⟨"JobStates", "trigger", "(II)I"⟩, prog_1_method_6_code, 4, (some (.int)), 4, 2)
def m_S_isPerson : xm_M := (⟨"JobStates", "isPerson", "(I)Z"⟩, prog_1_method_18_code, 1, (some (.boolean)), 4, 1)
def m_S_cancelGroup : xm_M := (⟨"JobStates", "cancelGroup", "(I)V"⟩, prog_1_method_23_code, 3, none, 4, 1)
def m_Run_isOver : xm_M := (⟨"JobStates$Run", "isOver", "()Z"⟩, prog_3_method_2_code, 2, (some (.boolean)), 1, 0)
def m_Tsk_isEnded : xm_M := (⟨"JobStates$Task", "isEnded", "()Z"⟩, prog_5_method_3_code, 1, (some (.boolean)), 3, 0)
def m_Run_cancelAll : xm_M := (⟨"JobStates$Run", "cancelAll", "()V"⟩, prog_3_method_5_code, 2, none, 1, 0)
def m_Tsk_leaveRunner : xm_M := (⟨"JobStates$Task", "leaveRunner", "()V"⟩, prog_5_method_8_code, 1, none, 3, 0)
def m_S_newRun : xm_M := (⟨"JobStates", "newRun", "(III)LJobStates$Run;"⟩, prog_1_method_22_code, 6, (some (.object "JobStates$Run")), 4, 3)
def m_Run_init : xm_M := (⟨"JobStates$Run", "<init>", "(IIII)V"⟩, prog_3_method_1_code, 5, none, 1, 4)
def m_Tsk_init : xm_M := (⟨"JobStates$Task", "<init>", "(LJobStates$Run;ILJobStates$Job;)V"⟩, prog_5_method_1_code, 4, none, 3, 3)
def m_S_settle : xm_M := (⟨"JobStates", "settle", "()V"⟩, prog_1_method_24_code, 2, none, 4, 0)
def m_Run_settleTasks : xm_M := (⟨"JobStates$Run", "settleTasks", "()V"⟩, prog_3_method_7_code, 2, none, 1, 0)
def m_Run_stateAfterWaiting : xm_M := (⟨"JobStates$Run", "stateAfterWaiting", "(LJobStates$Task;)I"⟩, prog_3_method_8_code, 5, (some (.int)), 1, 1)
def m_Tsk_isFreeToRun : xm_M := (⟨"JobStates$Task", "isFreeToRun", "()Z"⟩, prog_5_method_4_code, 1, (some (.boolean)), 3, 0)
def m_I_bitCount : xm_M := (⟨"java/lang/Integer", "bitCount", "(I)I"⟩, prog_8_method_49_code, 1, (some (.int)), 7, 1)
def m_S_approve : xm_M := (⟨"JobStates", "approve", "(III)I"⟩, prog_1_method_7_code, 6, (some (.int)), 4, 3)
def m_S_findTask : xm_M := (⟨"JobStates", "findTask", "(II)LJobStates$Task;"⟩, prog_1_method_20_code, 4, (some (.object "JobStates$Task")), 4, 2)
def m_S_findRun : xm_M := (⟨"JobStates", "findRun", "(I)LJobStates$Run;"⟩, prog_1_method_19_code, 2, (some (.object "JobStates$Run")), 4, 1)
def m_S_take : xm_M := (⟨"JobStates", "take", "(I)I"⟩, prog_1_method_8_code, 4, (some (.int)), 4, 1)
def m_S_findRunner : xm_M := (⟨"JobStates", "findRunner", "(I)LJobStates$Runner;"⟩, prog_1_method_21_code, 2, (some (.object "JobStates$Runner")), 4, 1)
def m_S_nextFor : xm_M := (⟨"JobStates", "nextFor", "(LJobStates$Runner;)LJobStates$Task;"⟩, prog_1_method_25_code, 5, (some (.object "JobStates$Task")), 4, 1)
def m_Run_firstReadyFor : xm_M := (⟨"JobStates$Run", "firstReadyFor", "(LJobStates$Runner;)LJobStates$Task;"⟩, prog_3_method_9_code, 3, (some (.object "JobStates$Task")), 1, 1)
def m_S_isServedBefore : xm_M := (⟨"JobStates", "isServedBefore", "(II)Z"⟩, prog_1_method_26_code, 5, (some (.boolean)), 4, 2)
def m_S_runningOf : xm_M := (⟨"JobStates", "runningOf", "(I)I"⟩, prog_1_method_27_code, 5, (some (.int)), 4, 1)
def m_Tsk_startOn : xm_M := (⟨"JobStates$Task", "startOn", "(LJobStates$Runner;I)V"⟩, prog_5_method_7_code, 3, none, 3, 2)
def m_Tsk_place : xm_M := (⟨"JobStates$Task", "place", "()I"⟩, prog_5_method_2_code, 1, (some (.int)), 3, 0)
def m_S_beat : xm_M := (⟨"JobStates", "beat", "(I)Z"⟩, prog_1_method_9_code, 3, (some (.boolean)), 4, 1)
def m_S_end : xm_M := (⟨"JobStates", "end", "(IZI)Z"⟩, prog_1_method_10_code, 6, (some (.boolean)), 4, 3)
def m_Tsk_finish : xm_M := (⟨"JobStates$Task", "finish", "(I)V"⟩, prog_5_method_9_code, 2, none, 3, 1)
def m_Tsk_failTry : xm_M := (⟨"JobStates$Task", "failTry", "()V"⟩, prog_5_method_10_code, 1, none, 3, 0)
def m_S_tick : xm_M := (⟨"JobStates", "tick", "(I)I"⟩, prog_1_method_11_code, 4, (some (.int)), 4, 1)
def m_S_isAnyRunnerBusy : xm_M := (⟨"JobStates", "isAnyRunnerBusy", "()Z"⟩, prog_1_method_28_code, 2, (some (.boolean)), 4, 0)
def m_S_checkRunners : xm_M := (⟨"JobStates", "checkRunners", "()V"⟩, prog_1_method_29_code, 3, none, 4, 0)
def m_Tsk_loseRunner : xm_M := (⟨"JobStates$Task", "loseRunner", "()V"⟩, prog_5_method_11_code, 1, none, 3, 0)
def m_Tsk_isPastLimit : xm_M := (⟨"JobStates$Task", "isPastLimit", "(I)Z"⟩, prog_5_method_5_code, 2, (some (.boolean)), 3, 1)
def m_S_cancel : xm_M := (⟨"JobStates", "cancel", "(I)Z"⟩, prog_1_method_12_code, 3, (some (.boolean)), 4, 1)
def m_S_again : xm_M := (⟨"JobStates", "again", "(I)I"⟩, prog_1_method_13_code, 4, (some (.int)), 4, 1)
def m_Run_redoFailed : xm_M := (⟨"JobStates$Run", "redoFailed", "()I"⟩, prog_3_method_6_code, 3, (some (.int)), 1, 0)
def m_Tsk_waitAgain : xm_M := (⟨"JobStates$Task", "waitAgain", "()V"⟩, prog_5_method_12_code, 1, none, 3, 0)
def m_S_state : xm_M := (⟨"JobStates", "state", "(II)I"⟩, prog_1_method_14_code, 4, (some (.int)), 4, 2)
def m_S_about : xm_M := (⟨"JobStates", "about", "(III)I"⟩, prog_1_method_15_code, 5, (some (.int)), 4, 3)
def m_Tsk_runnerNumber : xm_M := (⟨"JobStates$Task", "runnerNumber", "()I"⟩, prog_5_method_6_code, 1, (some (.int)), 3, 0)
def m_Run_artefactsFor : xm_M := (⟨"JobStates$Run", "artefactsFor", "(LJobStates$Job;)I"⟩, prog_3_method_10_code, 4, (some (.int)), 1, 1)
def m_S_verdict : xm_M := (⟨"JobStates", "verdict", "(I)I"⟩, prog_1_method_16_code, 3, (some (.int)), 4, 1)
def m_Run_judge : xm_M := (⟨"JobStates$Run", "judge", "()I"⟩, prog_3_method_4_code, 1, (some (.int)), 1, 0)
def m_Run_isAnyFailed : xm_M := (⟨"JobStates$Run", "isAnyFailed", "()Z"⟩, prog_3_method_3_code, 2, (some (.boolean)), 1, 0)
def m_S_has : xm_M := (⟨"JobStates", "has", "(I)I"⟩, prog_1_method_17_code, 4, (some (.int)), 4, 1)
def m_M_init : xm_M := (⟨"JobStatesModel", "<init>", "()V"⟩, prog_7_method_1_code, 1, none, 5, 0)
def m_M_job : xm_M := (⟨"JobStatesModel", "job", "(IIIZZ)I"⟩, prog_7_method_6_code, 6, (some (.int)), 5, 5)
def m_M_needs : xm_M := (⟨"JobStatesModel", "needs", "(II)Z"⟩, prog_7_method_7_code, 3, (some (.boolean)), 5, 2)
def m_M_isJob : xm_M := (⟨"JobStatesModel", "isJob", "(I)Z"⟩, prog_7_method_3_code, 2, (some (.boolean)), 5, 1)
def m_M_runner : xm_M := (⟨"JobStatesModel", "runner", "(I)I"⟩, prog_7_method_8_code, 2, (some (.int)), 5, 1)
def m_M_lost : xm_M := (⟨"JobStatesModel", "lost", "(I)Z"⟩, prog_7_method_9_code, 2, (some (.boolean)), 5, 1)
def m_M_trigger : xm_M := (⟨"JobStatesModel", "trigger", "(II)I"⟩, prog_7_method_18_code, 4, (some (.int)), 5, 2)
def m_M_isOver : xm_M := (⟨"JobStatesModel", "isOver", "(I)Z"⟩, prog_7_method_11_code, 4, (some (.boolean)), 5, 1)
def m_M_isEnd : xm_M := (⟨"JobStatesModel", "isEnd", "(I)Z"⟩, prog_7_method_10_code, 1, (some (.boolean)), 5, 1)
def m_M_stop : xm_M := (⟨"JobStatesModel", "stop", "(I)V"⟩, prog_7_method_17_code, 4, none, 5, 1)
def m_M_free : xm_M := (⟨"JobStatesModel", "free", "(I)V"⟩, prog_7_method_16_code, 3, none, 5, 1)
def m_M_settle : xm_M := (⟨"JobStatesModel", "settle", "()V"⟩, prog_7_method_14_code, 2, none, 5, 0)
def m_M_becomes : xm_M := (⟨"JobStatesModel", "becomes", "(II)I"⟩, prog_7_method_13_code, 6, (some (.int)), 5, 2)
def m_M_isApproved : xm_M := (⟨"JobStatesModel", "isApproved", "(I)Z"⟩, prog_7_method_12_code, 4, (some (.boolean)), 5, 1)
def m_M_approve : xm_M := (⟨"JobStatesModel", "approve", "(III)I"⟩, prog_7_method_20_code, 4, (some (.int)), 5, 3)
def m_M_isThere : xm_M := (⟨"JobStatesModel", "isThere", "(II)Z"⟩, prog_7_method_19_code, 3, (some (.boolean)), 5, 2)
def m_M_isRun : xm_M := (⟨"JobStatesModel", "isRun", "(I)Z"⟩, prog_7_method_4_code, 2, (some (.boolean)), 5, 1)
def m_M_take : xm_M := (⟨"JobStatesModel", "take", "(I)I"⟩, prog_7_method_22_code, 6, (some (.int)), 5, 1)
def m_M_isRunner : xm_M := (⟨"JobStatesModel", "isRunner", "(I)Z"⟩, prog_7_method_5_code, 2, (some (.boolean)), 5, 1)
def m_M_busy : xm_M := (⟨"JobStatesModel", "busy", "(I)I"⟩, prog_7_method_21_code, 4, (some (.int)), 5, 1)
def m_M_beat : xm_M := (⟨"JobStatesModel", "beat", "(I)Z"⟩, prog_7_method_23_code, 2, (some (.boolean)), 5, 1)
def m_M_end : xm_M := (⟨"JobStatesModel", "end", "(IZI)Z"⟩, prog_7_method_25_code, 5, (some (.boolean)), 5, 3)
def m_M_failTry : xm_M := (⟨"JobStatesModel", "failTry", "(I)V"⟩, prog_7_method_24_code, 2, none, 5, 1)
def m_M_tick : xm_M := (⟨"JobStatesModel", "tick", "(I)I"⟩, prog_7_method_27_code, 4, (some (.int)), 5, 1)
def m_M_pass : xm_M := (⟨"JobStatesModel", "pass", "(I)V"⟩, prog_7_method_26_code, 3, none, 5, 1)
def m_M_runnerOf : xm_M := (⟨"JobStatesModel", "runnerOf", "(I)I"⟩, prog_7_method_15_code, 4, (some (.int)), 5, 1)
def m_M_cancel : xm_M := (⟨"JobStatesModel", "cancel", "(I)Z"⟩, prog_7_method_28_code, 2, (some (.boolean)), 5, 1)
def m_M_again : xm_M := (⟨"JobStatesModel", "again", "(I)I"⟩, prog_7_method_29_code, 5, (some (.int)), 5, 1)
def m_M_state : xm_M := (⟨"JobStatesModel", "state", "(II)I"⟩, prog_7_method_30_code, 3, (some (.int)), 5, 2)
def m_M_about : xm_M := (⟨"JobStatesModel", "about", "(III)I"⟩, prog_7_method_31_code, 7, (some (.int)), 5, 3)
def m_M_verdict : xm_M := (⟨"JobStatesModel", "verdict", "(I)I"⟩, prog_7_method_32_code, 4, (some (.int)), 5, 1)
def m_M_has : xm_M := (⟨"JobStatesModel", "has", "(I)I"⟩, prog_7_method_33_code, 2, (some (.int)), 5, 1)
def m_L_law : xm_M := (⟨"JobStatesLaw", "law", "([I)Z"⟩, code, 4, (some (.boolean)), 6, 1)
