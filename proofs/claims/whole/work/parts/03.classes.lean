/-! The classes, their fields, the words that hold on. -/
def xc_F0 : u_T := fun k => match k with
  | 0 => ("RingMachine$Descriptor", "selector", "I", false)
  | 1 => ("RingMachine$Descriptor", "base", "I", false)
  | 2 => ("RingMachine$Descriptor", "limit", "I", false)
  | 3 => ("RingMachine$Descriptor", "kind", "I", false)
  | 4 => ("RingMachine$Descriptor", "level", "I", false)
  | 5 => ("RingMachine$Descriptor", "words", "I", false)
  | _ => ("RingMachine$Descriptor", "present", "Z", false)
def xc_F1 : u_T := fun k => match k with
  | 0 => ("RingMachine$Fault", "vector", "I", false)
  | 1 => ("RingMachine$Fault", "code", "I", false)
  | _ => ("RingMachine$Fault", "address", "I", false)
def xc_F2 : u_T := fun k => match k with
  | 0 => ("RingMachine$Memory", "fault", "LRingMachine$Fault;", true)
  | 1 => ("RingMachine$Memory", "registers", "LRingMachine$Registers;", true)
  | 2 => ("RingMachine$Memory", "bytes", "[I", true)
  | _ => ("RingMachine$Memory", "paged", "Z", false)
def xc_F3 : u_T := fun k => match k with
  | 0 => ("RingMachine$Registers", "cs", "LRingMachine$Descriptor;", true)
  | 1 => ("RingMachine$Registers", "ss", "LRingMachine$Descriptor;", true)
  | 2 => ("RingMachine$Registers", "ds", "LRingMachine$Descriptor;", true)
  | 3 => ("RingMachine$Registers", "sp", "I", false)
  | 4 => ("RingMachine$Registers", "ip", "I", false)
  | 5 => ("RingMachine$Registers", "flags", "I", false)
  | 6 => ("RingMachine$Registers", "ring", "I", false)
  | 7 => ("RingMachine$Registers", "task", "I", false)
  | 8 => ("RingMachine$Registers", "taskState", "I", false)
  | 9 => ("RingMachine$Registers", "directory", "I", false)
  | _ => ("RingMachine$Registers", "accumulator", "I", false)
def xc_F4 : u_T := fun k => match k with
  | 0 => ("RingMachine", "fault", "LRingMachine$Fault;", true)
  | 1 => ("RingMachine", "now", "LRingMachine$Registers;", true)
  | 2 => ("RingMachine", "before", "LRingMachine$Registers;", true)
  | 3 => ("RingMachine", "memory", "LRingMachine$Memory;", true)
  | 4 => ("RingMachine", "entry", "LRingMachine$Descriptor;", true)
  | 5 => ("RingMachine", "target", "LRingMachine$Descriptor;", true)
  | 6 => ("RingMachine", "stack", "LRingMachine$Descriptor;", true)
  | 7 => ("RingMachine", "state", "[I", true)
  | 8 => ("RingMachine", "words", "[I", true)
  | 9 => ("RingMachine", "table", "I", false)
  | 10 => ("RingMachine", "count", "I", false)
  | 11 => ("RingMachine", "vectors", "I", false)
  | _ => ("RingMachine", "down", "Z", false)
def xc_F5 : u_T := fun k => match k with
  | 0 => ("RingMachineModel", "memory", "[I", false)
  | 1 => ("RingMachineModel", "paged", "Z", false)
  | 2 => ("RingMachineModel", "table", "I", false)
  | 3 => ("RingMachineModel", "count", "I", false)
  | 4 => ("RingMachineModel", "vectors", "I", false)
  | 5 => ("RingMachineModel", "\x72", "[I", false)
  | 6 => ("RingMachineModel", "kept", "[I", false)
  | 7 => ("RingMachineModel", "faultAddress", "I", false)
  | 8 => ("RingMachineModel", "down", "Z", false)
  | 9 => ("RingMachineModel", "raised", "I", false)
  | 10 => ("RingMachineModel", "switched", "Z", false)
  | 11 => ("RingMachineModel", "went", "Z", false)
  | 12 => ("RingMachineModel", "bases", "[I", false)
  | 13 => ("RingMachineModel", "limits", "[I", false)
  | 14 => ("RingMachineModel", "kinds", "[I", false)
  | 15 => ("RingMachineModel", "levels", "[I", false)
  | 16 => ("RingMachineModel", "present", "[Z", false)
  | 17 => ("RingMachineModel", "counts", "[I", false)
  | _ => ("RingMachineModel", "words", "[I", false)
def xw_fT (ci k : Nat) : FieldType := match ci with
  | 0 => (match k with
    | 0 => .int
    | 1 => .int
    | 2 => .int
    | 3 => .int
    | 4 => .int
    | 5 => .int
    | _ => .boolean)
  | 1 => (match k with
    | 0 => .int
    | 1 => .int
    | _ => .int)
  | 2 => (match k with
    | 0 => .object "RingMachine$Fault"
    | 1 => .object "RingMachine$Registers"
    | 2 => .array .int
    | _ => .boolean)
  | 3 => (match k with
    | 0 => .object "RingMachine$Descriptor"
    | 1 => .object "RingMachine$Descriptor"
    | 2 => .object "RingMachine$Descriptor"
    | 3 => .int
    | 4 => .int
    | 5 => .int
    | 6 => .int
    | 7 => .int
    | 8 => .int
    | 9 => .int
    | _ => .int)
  | 4 => (match k with
    | 0 => .object "RingMachine$Fault"
    | 1 => .object "RingMachine$Registers"
    | 2 => .object "RingMachine$Registers"
    | 3 => .object "RingMachine$Memory"
    | 4 => .object "RingMachine$Descriptor"
    | 5 => .object "RingMachine$Descriptor"
    | 6 => .object "RingMachine$Descriptor"
    | 7 => .array .int
    | 8 => .array .int
    | 9 => .int
    | 10 => .int
    | 11 => .int
    | _ => .boolean)
  | _ => (match k with
    | 0 => .array .int
    | 1 => .boolean
    | 2 => .int
    | 3 => .int
    | 4 => .int
    | 5 => .array .int
    | 6 => .array .int
    | 7 => .int
    | 8 => .boolean
    | 9 => .int
    | 10 => .boolean
    | 11 => .boolean
    | 12 => .array .int
    | 13 => .array .int
    | 14 => .array .int
    | 15 => .array .int
    | 16 => .array .boolean
    | 17 => .array .int
    | _ => .array .int)
def xw_ft (ci k : Nat) : Nat := match xw_fT ci k with
  | .int => 0
  | .boolean => 1
  | .object _ => 2
  | .array _ => 2
  | _ => 3
abbrev vwCl : List vw_C := [("RingMachine$Descriptor", xc_F0, 7), ("RingMachine$Fault", xc_F1, 3), ("RingMachine$Memory", xc_F2, 4), ("RingMachine$Registers", xc_F3, 11), ("RingMachine", xc_F4, 13), ("RingMachineModel", xc_F5, 19)]
def xw_T : List Cond := lw_tbl.filter xw_gw
theorem xw_Tin {w : Cond} (h : w ∈ lw_tbl) (hg : xw_gw w = true) : w ∈ xw_T := List.mem_filter.mpr ⟨h, hg⟩
theorem xw_clP {P : Nat → vw_C → Prop} (h0 : P 0 ("RingMachine$Descriptor", xc_F0, 7)) (h1 : P 1 ("RingMachine$Fault", xc_F1, 3)) (h2 : P 2 ("RingMachine$Memory", xc_F2, 4)) (h3 : P 3 ("RingMachine$Registers", xc_F3, 11)) (h4 : P 4 ("RingMachine", xc_F4, 13)) (h5 : P 5 ("RingMachineModel", xc_F5, 19)) : ∀ (ci : Nat) (q : vw_C), vwCl[ci]? = some q → P ci q := by
  intro ci q h
  match ci, h with
  | 0, h => cases h; exact h0
  | 1, h => cases h; exact h1
  | 2, h => cases h; exact h2
  | 3, h => cases h; exact h3
  | 4, h => cases h; exact h4
  | 5, h => cases h; exact h5
  | n + 6, h => simp [vwCl] at h
theorem xc_w0_0 : Cond.lays "RingMachine$Descriptor" "RingMachine$Descriptor" "selector" "I" ∈ xw_T := xw_Tin (List.mem_append_right _ (List.mem_of_getElem? (i := 64) (by decide +kernel))) rfl
theorem xc_w0_1 : Cond.lays "RingMachine$Descriptor" "RingMachine$Descriptor" "base" "I" ∈ xw_T := xw_Tin (List.mem_append_right _ (List.mem_of_getElem? (i := 66) (by decide +kernel))) rfl
theorem xc_w0_2 : Cond.lays "RingMachine$Descriptor" "RingMachine$Descriptor" "limit" "I" ∈ xw_T := xw_Tin (List.mem_append_right _ (List.mem_of_getElem? (i := 68) (by decide +kernel))) rfl
theorem xc_w0_3 : Cond.lays "RingMachine$Descriptor" "RingMachine$Descriptor" "kind" "I" ∈ xw_T := xw_Tin (List.mem_append_right _ (List.mem_of_getElem? (i := 70) (by decide +kernel))) rfl
theorem xc_w0_4 : Cond.lays "RingMachine$Descriptor" "RingMachine$Descriptor" "level" "I" ∈ xw_T := xw_Tin (List.mem_append_right _ (List.mem_of_getElem? (i := 72) (by decide +kernel))) rfl
theorem xc_w0_5 : Cond.lays "RingMachine$Descriptor" "RingMachine$Descriptor" "words" "I" ∈ xw_T := xw_Tin (List.mem_append_right _ (List.mem_of_getElem? (i := 74) (by decide +kernel))) rfl
theorem xc_w0_6 : Cond.lays "RingMachine$Descriptor" "RingMachine$Descriptor" "present" "Z" ∈ xw_T := xw_Tin (List.mem_append_right _ (List.mem_of_getElem? (i := 76) (by decide +kernel))) rfl
theorem xc_c0 : ∀ w ∈ u_ws "RingMachine$Descriptor" xc_F0 7, w ∈ xw_T := by
  intro w hw
  obtain ⟨k, hk, rfl⟩ := List.mem_map.mp hw
  have hk : k < 7 := List.mem_range.mp hk
  match k, hk with
  | 0, _ => exact xc_w0_0
  | 1, _ => exact xc_w0_1
  | 2, _ => exact xc_w0_2
  | 3, _ => exact xc_w0_3
  | 4, _ => exact xc_w0_4
  | 5, _ => exact xc_w0_5
  | 6, _ => exact xc_w0_6
  | n + 7, hk => exact absurd hk (by omega)
theorem xc_w1_0 : Cond.lays "RingMachine$Fault" "RingMachine$Fault" "vector" "I" ∈ xw_T := xw_Tin (List.mem_append_right _ (List.mem_of_getElem? (i := 31) (by decide +kernel))) rfl
theorem xc_w1_1 : Cond.lays "RingMachine$Fault" "RingMachine$Fault" "code" "I" ∈ xw_T := xw_Tin (List.mem_append_right _ (List.mem_of_getElem? (i := 33) (by decide +kernel))) rfl
theorem xc_w1_2 : Cond.lays "RingMachine$Fault" "RingMachine$Fault" "address" "I" ∈ xw_T := xw_Tin (List.mem_append_right _ (List.mem_of_getElem? (i := 35) (by decide +kernel))) rfl
theorem xc_c1 : ∀ w ∈ u_ws "RingMachine$Fault" xc_F1 3, w ∈ xw_T := by
  intro w hw
  obtain ⟨k, hk, rfl⟩ := List.mem_map.mp hw
  have hk : k < 3 := List.mem_range.mp hk
  match k, hk with
  | 0, _ => exact xc_w1_0
  | 1, _ => exact xc_w1_1
  | 2, _ => exact xc_w1_2
  | n + 3, hk => exact absurd hk (by omega)
theorem xc_w2_0 : Cond.laysFinal "RingMachine$Memory" "RingMachine$Memory" "fault" "LRingMachine$Fault;" ∈ xw_T := xw_Tin (List.mem_append_right _ (List.mem_of_getElem? (i := 140) (by decide +kernel))) rfl
theorem xc_w2_1 : Cond.laysFinal "RingMachine$Memory" "RingMachine$Memory" "registers" "LRingMachine$Registers;" ∈ xw_T := xw_Tin (List.mem_append_right _ (List.mem_of_getElem? (i := 142) (by decide +kernel))) rfl
theorem xc_w2_2 : Cond.laysFinal "RingMachine$Memory" "RingMachine$Memory" "bytes" "[I" ∈ xw_T := xw_Tin (List.mem_append_right _ (List.mem_of_getElem? (i := 144) (by decide +kernel))) rfl
theorem xc_w2_3 : Cond.lays "RingMachine$Memory" "RingMachine$Memory" "paged" "Z" ∈ xw_T := xw_Tin (List.mem_append_right _ (List.mem_of_getElem? (i := 146) (by decide +kernel))) rfl
theorem xc_c2 : ∀ w ∈ u_ws "RingMachine$Memory" xc_F2 4, w ∈ xw_T := by
  intro w hw
  obtain ⟨k, hk, rfl⟩ := List.mem_map.mp hw
  have hk : k < 4 := List.mem_range.mp hk
  match k, hk with
  | 0, _ => exact xc_w2_0
  | 1, _ => exact xc_w2_1
  | 2, _ => exact xc_w2_2
  | 3, _ => exact xc_w2_3
  | n + 4, hk => exact absurd hk (by omega)
theorem xc_w3_0 : Cond.laysFinal "RingMachine$Registers" "RingMachine$Registers" "cs" "LRingMachine$Descriptor;" ∈ xw_T := xw_Tin (List.mem_append_right _ (List.mem_of_getElem? (i := 106) (by decide +kernel))) rfl
theorem xc_w3_1 : Cond.laysFinal "RingMachine$Registers" "RingMachine$Registers" "ss" "LRingMachine$Descriptor;" ∈ xw_T := xw_Tin (List.mem_append_right _ (List.mem_of_getElem? (i := 108) (by decide +kernel))) rfl
theorem xc_w3_2 : Cond.laysFinal "RingMachine$Registers" "RingMachine$Registers" "ds" "LRingMachine$Descriptor;" ∈ xw_T := xw_Tin (List.mem_append_right _ (List.mem_of_getElem? (i := 110) (by decide +kernel))) rfl
theorem xc_w3_3 : Cond.lays "RingMachine$Registers" "RingMachine$Registers" "sp" "I" ∈ xw_T := xw_Tin (List.mem_append_right _ (List.mem_of_getElem? (i := 112) (by decide +kernel))) rfl
theorem xc_w3_4 : Cond.lays "RingMachine$Registers" "RingMachine$Registers" "ip" "I" ∈ xw_T := xw_Tin (List.mem_append_right _ (List.mem_of_getElem? (i := 114) (by decide +kernel))) rfl
theorem xc_w3_5 : Cond.lays "RingMachine$Registers" "RingMachine$Registers" "flags" "I" ∈ xw_T := xw_Tin (List.mem_append_right _ (List.mem_of_getElem? (i := 116) (by decide +kernel))) rfl
theorem xc_w3_6 : Cond.lays "RingMachine$Registers" "RingMachine$Registers" "ring" "I" ∈ xw_T := xw_Tin (List.mem_append_right _ (List.mem_of_getElem? (i := 118) (by decide +kernel))) rfl
theorem xc_w3_7 : Cond.lays "RingMachine$Registers" "RingMachine$Registers" "task" "I" ∈ xw_T := xw_Tin (List.mem_append_right _ (List.mem_of_getElem? (i := 120) (by decide +kernel))) rfl
theorem xc_w3_8 : Cond.lays "RingMachine$Registers" "RingMachine$Registers" "taskState" "I" ∈ xw_T := xw_Tin (List.mem_append_right _ (List.mem_of_getElem? (i := 122) (by decide +kernel))) rfl
theorem xc_w3_9 : Cond.lays "RingMachine$Registers" "RingMachine$Registers" "directory" "I" ∈ xw_T := xw_Tin (List.mem_append_right _ (List.mem_of_getElem? (i := 124) (by decide +kernel))) rfl
theorem xc_w3_10 : Cond.lays "RingMachine$Registers" "RingMachine$Registers" "accumulator" "I" ∈ xw_T := xw_Tin (List.mem_append_right _ (List.mem_of_getElem? (i := 126) (by decide +kernel))) rfl
theorem xc_c3 : ∀ w ∈ u_ws "RingMachine$Registers" xc_F3 11, w ∈ xw_T := by
  intro w hw
  obtain ⟨k, hk, rfl⟩ := List.mem_map.mp hw
  have hk : k < 11 := List.mem_range.mp hk
  match k, hk with
  | 0, _ => exact xc_w3_0
  | 1, _ => exact xc_w3_1
  | 2, _ => exact xc_w3_2
  | 3, _ => exact xc_w3_3
  | 4, _ => exact xc_w3_4
  | 5, _ => exact xc_w3_5
  | 6, _ => exact xc_w3_6
  | 7, _ => exact xc_w3_7
  | 8, _ => exact xc_w3_8
  | 9, _ => exact xc_w3_9
  | 10, _ => exact xc_w3_10
  | n + 11, hk => exact absurd hk (by omega)
theorem xc_w4_0 : Cond.laysFinal "RingMachine" "RingMachine" "fault" "LRingMachine$Fault;" ∈ xw_T := xw_Tin (List.mem_append_right _ (List.mem_of_getElem? (i := 165) (by decide +kernel))) rfl
theorem xc_w4_1 : Cond.laysFinal "RingMachine" "RingMachine" "now" "LRingMachine$Registers;" ∈ xw_T := xw_Tin (List.mem_append_right _ (List.mem_of_getElem? (i := 167) (by decide +kernel))) rfl
theorem xc_w4_2 : Cond.laysFinal "RingMachine" "RingMachine" "before" "LRingMachine$Registers;" ∈ xw_T := xw_Tin (List.mem_append_right _ (List.mem_of_getElem? (i := 169) (by decide +kernel))) rfl
theorem xc_w4_3 : Cond.laysFinal "RingMachine" "RingMachine" "memory" "LRingMachine$Memory;" ∈ xw_T := xw_Tin (List.mem_append_right _ (List.mem_of_getElem? (i := 171) (by decide +kernel))) rfl
theorem xc_w4_4 : Cond.laysFinal "RingMachine" "RingMachine" "entry" "LRingMachine$Descriptor;" ∈ xw_T := xw_Tin (List.mem_append_right _ (List.mem_of_getElem? (i := 173) (by decide +kernel))) rfl
theorem xc_w4_5 : Cond.laysFinal "RingMachine" "RingMachine" "target" "LRingMachine$Descriptor;" ∈ xw_T := xw_Tin (List.mem_append_right _ (List.mem_of_getElem? (i := 175) (by decide +kernel))) rfl
theorem xc_w4_6 : Cond.laysFinal "RingMachine" "RingMachine" "stack" "LRingMachine$Descriptor;" ∈ xw_T := xw_Tin (List.mem_append_right _ (List.mem_of_getElem? (i := 177) (by decide +kernel))) rfl
theorem xc_w4_7 : Cond.laysFinal "RingMachine" "RingMachine" "state" "[I" ∈ xw_T := xw_Tin (List.mem_append_right _ (List.mem_of_getElem? (i := 179) (by decide +kernel))) rfl
theorem xc_w4_8 : Cond.laysFinal "RingMachine" "RingMachine" "words" "[I" ∈ xw_T := xw_Tin (List.mem_append_right _ (List.mem_of_getElem? (i := 181) (by decide +kernel))) rfl
theorem xc_w4_9 : Cond.lays "RingMachine" "RingMachine" "table" "I" ∈ xw_T := xw_Tin (List.mem_append_right _ (List.mem_of_getElem? (i := 183) (by decide +kernel))) rfl
theorem xc_w4_10 : Cond.lays "RingMachine" "RingMachine" "count" "I" ∈ xw_T := xw_Tin (List.mem_append_right _ (List.mem_of_getElem? (i := 185) (by decide +kernel))) rfl
theorem xc_w4_11 : Cond.lays "RingMachine" "RingMachine" "vectors" "I" ∈ xw_T := xw_Tin (List.mem_append_right _ (List.mem_of_getElem? (i := 187) (by decide +kernel))) rfl
theorem xc_w4_12 : Cond.lays "RingMachine" "RingMachine" "down" "Z" ∈ xw_T := xw_Tin (List.mem_append_right _ (List.mem_of_getElem? (i := 189) (by decide +kernel))) rfl
theorem xc_c4 : ∀ w ∈ u_ws "RingMachine" xc_F4 13, w ∈ xw_T := by
  intro w hw
  obtain ⟨k, hk, rfl⟩ := List.mem_map.mp hw
  have hk : k < 13 := List.mem_range.mp hk
  match k, hk with
  | 0, _ => exact xc_w4_0
  | 1, _ => exact xc_w4_1
  | 2, _ => exact xc_w4_2
  | 3, _ => exact xc_w4_3
  | 4, _ => exact xc_w4_4
  | 5, _ => exact xc_w4_5
  | 6, _ => exact xc_w4_6
  | 7, _ => exact xc_w4_7
  | 8, _ => exact xc_w4_8
  | 9, _ => exact xc_w4_9
  | 10, _ => exact xc_w4_10
  | 11, _ => exact xc_w4_11
  | 12, _ => exact xc_w4_12
  | n + 13, hk => exact absurd hk (by omega)
theorem xc_w5_0 : Cond.lays "RingMachineModel" "RingMachineModel" "memory" "[I" ∈ xw_T := xw_Tin (List.mem_append_right _ (List.mem_of_getElem? (i := 561) (by decide +kernel))) rfl
theorem xc_w5_1 : Cond.lays "RingMachineModel" "RingMachineModel" "paged" "Z" ∈ xw_T := xw_Tin (List.mem_append_right _ (List.mem_of_getElem? (i := 563) (by decide +kernel))) rfl
theorem xc_w5_2 : Cond.lays "RingMachineModel" "RingMachineModel" "table" "I" ∈ xw_T := xw_Tin (List.mem_append_right _ (List.mem_of_getElem? (i := 565) (by decide +kernel))) rfl
theorem xc_w5_3 : Cond.lays "RingMachineModel" "RingMachineModel" "count" "I" ∈ xw_T := xw_Tin (List.mem_append_right _ (List.mem_of_getElem? (i := 567) (by decide +kernel))) rfl
theorem xc_w5_4 : Cond.lays "RingMachineModel" "RingMachineModel" "vectors" "I" ∈ xw_T := xw_Tin (List.mem_append_right _ (List.mem_of_getElem? (i := 569) (by decide +kernel))) rfl
theorem xc_w5_5 : Cond.lays "RingMachineModel" "RingMachineModel" "\x72" "[I" ∈ xw_T := xw_Tin (List.mem_append_right _ (List.mem_of_getElem? (i := 571) (by decide +kernel))) rfl
theorem xc_w5_6 : Cond.lays "RingMachineModel" "RingMachineModel" "kept" "[I" ∈ xw_T := xw_Tin (List.mem_append_right _ (List.mem_of_getElem? (i := 573) (by decide +kernel))) rfl
theorem xc_w5_7 : Cond.lays "RingMachineModel" "RingMachineModel" "faultAddress" "I" ∈ xw_T := xw_Tin (List.mem_append_right _ (List.mem_of_getElem? (i := 575) (by decide +kernel))) rfl
theorem xc_w5_8 : Cond.lays "RingMachineModel" "RingMachineModel" "down" "Z" ∈ xw_T := xw_Tin (List.mem_append_right _ (List.mem_of_getElem? (i := 577) (by decide +kernel))) rfl
theorem xc_w5_9 : Cond.lays "RingMachineModel" "RingMachineModel" "raised" "I" ∈ xw_T := xw_Tin (List.mem_append_right _ (List.mem_of_getElem? (i := 579) (by decide +kernel))) rfl
theorem xc_w5_10 : Cond.lays "RingMachineModel" "RingMachineModel" "switched" "Z" ∈ xw_T := xw_Tin (List.mem_append_right _ (List.mem_of_getElem? (i := 581) (by decide +kernel))) rfl
theorem xc_w5_11 : Cond.lays "RingMachineModel" "RingMachineModel" "went" "Z" ∈ xw_T := xw_Tin (List.mem_append_right _ (List.mem_of_getElem? (i := 583) (by decide +kernel))) rfl
theorem xc_w5_12 : Cond.lays "RingMachineModel" "RingMachineModel" "bases" "[I" ∈ xw_T := xw_Tin (List.mem_append_right _ (List.mem_of_getElem? (i := 585) (by decide +kernel))) rfl
theorem xc_w5_13 : Cond.lays "RingMachineModel" "RingMachineModel" "limits" "[I" ∈ xw_T := xw_Tin (List.mem_append_right _ (List.mem_of_getElem? (i := 587) (by decide +kernel))) rfl
theorem xc_w5_14 : Cond.lays "RingMachineModel" "RingMachineModel" "kinds" "[I" ∈ xw_T := xw_Tin (List.mem_append_right _ (List.mem_of_getElem? (i := 589) (by decide +kernel))) rfl
theorem xc_w5_15 : Cond.lays "RingMachineModel" "RingMachineModel" "levels" "[I" ∈ xw_T := xw_Tin (List.mem_append_right _ (List.mem_of_getElem? (i := 591) (by decide +kernel))) rfl
theorem xc_w5_16 : Cond.lays "RingMachineModel" "RingMachineModel" "present" "[Z" ∈ xw_T := xw_Tin (List.mem_append_right _ (List.mem_of_getElem? (i := 593) (by decide +kernel))) rfl
theorem xc_w5_17 : Cond.lays "RingMachineModel" "RingMachineModel" "counts" "[I" ∈ xw_T := xw_Tin (List.mem_append_right _ (List.mem_of_getElem? (i := 595) (by decide +kernel))) rfl
theorem xc_w5_18 : Cond.lays "RingMachineModel" "RingMachineModel" "words" "[I" ∈ xw_T := xw_Tin (List.mem_append_right _ (List.mem_of_getElem? (i := 597) (by decide +kernel))) rfl
theorem xc_c5 : ∀ w ∈ u_ws "RingMachineModel" xc_F5 19, w ∈ xw_T := by
  intro w hw
  obtain ⟨k, hk, rfl⟩ := List.mem_map.mp hw
  have hk : k < 19 := List.mem_range.mp hk
  match k, hk with
  | 0, _ => exact xc_w5_0
  | 1, _ => exact xc_w5_1
  | 2, _ => exact xc_w5_2
  | 3, _ => exact xc_w5_3
  | 4, _ => exact xc_w5_4
  | 5, _ => exact xc_w5_5
  | 6, _ => exact xc_w5_6
  | 7, _ => exact xc_w5_7
  | 8, _ => exact xc_w5_8
  | 9, _ => exact xc_w5_9
  | 10, _ => exact xc_w5_10
  | 11, _ => exact xc_w5_11
  | 12, _ => exact xc_w5_12
  | 13, _ => exact xc_w5_13
  | 14, _ => exact xc_w5_14
  | 15, _ => exact xc_w5_15
  | 16, _ => exact xc_w5_16
  | 17, _ => exact xc_w5_17
  | 18, _ => exact xc_w5_18
  | n + 19, hk => exact absurd hk (by omega)
theorem xw_cl1 : ∀ (ci : Nat) (q : vw_C), vwCl[ci]? = some q → ∀ w ∈ u_ws q.1 q.2.1 q.2.2, w ∈ xw_T := xw_clP (P := fun _ q => ∀ w ∈ u_ws q.1 q.2.1 q.2.2, w ∈ xw_T) xc_c0 xc_c1 xc_c2 xc_c3 xc_c4 xc_c5
theorem xw_cl2 : ∀ (ci : Nat) (q : vw_C), vwCl[ci]? = some q → ∀ k, k < q.2.2 → parseFieldDescriptor (q.2.1 k).2.2.1 = some (xw_fT ci k) := xw_clP (P := fun ci q => ∀ k, k < q.2.2 → parseFieldDescriptor (q.2.1 k).2.2.1 = some (xw_fT ci k)) (by decide +kernel) (by decide +kernel) (by decide +kernel) (by decide +kernel) (by decide +kernel) (by decide +kernel)
theorem xw_cl3 : ∀ (ci : Nat) (q : vw_C), vwCl[ci]? = some q → ∀ a, a < q.2.2 → ∀ b, b < q.2.2 → a ≠ b → (q.2.1 a).2.1 ≠ (q.2.1 b).2.1 := xw_clP (P := fun _ q => ∀ a, a < q.2.2 → ∀ b, b < q.2.2 → a ≠ b → (q.2.1 a).2.1 ≠ (q.2.1 b).2.1) (by decide +kernel) (by decide +kernel) (by decide +kernel) (by decide +kernel) (by decide +kernel) (by decide +kernel)
theorem xw_cl0 : ∀ (ci : Nat) (q : vw_C), vwCl[ci]? = some q → ∀ k, k < q.2.2 → xw_ft ci k ≠ 3 := xw_clP (P := fun ci q => ∀ k, k < q.2.2 → xw_ft ci k ≠ 3) (by decide +kernel) (by decide +kernel) (by decide +kernel) (by decide +kernel) (by decide +kernel) (by decide +kernel)
theorem xw_cl4 (ci k : Nat) (q : vw_C) (_ : vwCl[ci]? = some q) (_ : k < q.2.2) (h : xw_ft ci k = 0) : xw_fT ci k = .int := by
  unfold xw_ft at h
  split at h <;> first | assumption | cases h
theorem xw_cl5 (ci k : Nat) (q : vw_C) (_ : vwCl[ci]? = some q) (_ : k < q.2.2) (h : xw_ft ci k = 1) : xw_fT ci k = .boolean := by
  unfold xw_ft at h
  split at h <;> first | assumption | cases h
theorem xw_cl6 (ci k : Nat) (q : vw_C) (_ : vwCl[ci]? = some q) (_ : k < q.2.2) (h : xw_ft ci k = 2) : (∀ a, narrow (xw_fT ci k) (.ref a) = .ref a) ∧ ∀ a, fits (xw_fT ci k) (.ref a) = true := by
  unfold xw_ft at h
  split at h
  · cases h
  · cases h
  · next hh => rw [hh]; exact ⟨fun _ => rfl, fun _ => rfl⟩
  · next hh => rw [hh]; exact ⟨fun _ => rfl, fun _ => rfl⟩
  · cases h
theorem xw_cl7 (ci k : Nat) (q : vw_C) (hq : vwCl[ci]? = some q) (hk : k < q.2.2) (G : xw_G) : defaultValue (xw_fT ci k) = xw_fv (xw_ft ci k) G 0 none := by
  have h0 := xw_cl0 ci q hq k hk
  unfold xw_ft at h0 ⊢
  split at h0
  · next hh => rw [hh]; rfl
  · next hh => rw [hh]; rfl
  · next hh => rw [hh]; rfl
  · next hh => rw [hh]; rfl
  · exact absurd rfl h0
/-! The cells of the law: the script, the class's, the reference's, then exceptions. -/
def xk_k (N : Nat) : Nat → Nat × Nat := fun i => match i with
  | 0 => (3, N)
  | 1 => (0, 4)
  | 2 => (0, 1)
  | 3 => (0, 3)
  | 4 => (0, 0)
  | 5 => (0, 0)
  | 6 => (0, 0)
  | 7 => (0, 3)
  | 8 => (0, 0)
  | 9 => (0, 0)
  | 10 => (0, 0)
  | 11 => (0, 2)
  | 12 => (1, 2048)
  | 13 => (0, 0)
  | 14 => (0, 0)
  | 15 => (0, 0)
  | 16 => (1, 8)
  | 17 => (1, 7)
  | 18 => (0, 5)
  | 19 => (1, 2048)
  | 20 => (1, 26)
  | 21 => (1, 26)
  | 22 => (1, 2)
  | 23 => (1, 2)
  | 24 => (1, 2)
  | 25 => (1, 2)
  | 26 => (2, 2)
  | 27 => (1, 2)
  | 28 => (1, 8)
  | _ => (4, 0)
theorem xk_e {N n : Nat} (hn : 29 ≤ n) : xk_k N n = (4, 0) := by
  obtain ⟨m, rfl⟩ : ∃ m, n = m + 29 := ⟨n - 29, by omega⟩
  rfl
def xr_0 : xs_R := fun a b => if a = 1 then (if b = 0 then some 2 else if b = 1 then some 3 else if b = 2 then some 7 else if b = 3 then some 11 else if b = 4 then some 13 else if b = 5 then some 14 else if b = 6 then some 15 else if b = 7 then some 16 else if b = 8 then some 17 else none) else if a = 3 then (if b = 0 then some 4 else if b = 1 then some 5 else if b = 2 then some 6 else none) else if a = 7 then (if b = 0 then some 8 else if b = 1 then some 9 else if b = 2 then some 10 else none) else if a = 11 then (if b = 0 then some 2 else if b = 1 then some 3 else if b = 2 then some 12 else none) else if a = 18 then (if b = 0 then some 19 else if b = 5 then some 20 else if b = 6 then some 21 else if b = 12 then some 22 else if b = 13 then some 23 else if b = 14 then some 24 else if b = 15 then some 25 else if b = 16 then some 26 else if b = 17 then some 27 else if b = 18 then some 28 else none) else none
