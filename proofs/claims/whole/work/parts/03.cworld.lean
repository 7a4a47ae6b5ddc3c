def cT_SM : u_T := fun k => match k with
  | 0 => ("StageMachine", "player", "LStageMachine$Player;", true)
  | 1 => ("StageMachine", "frames", "I", false)
  | _ => ("StageMachine", "instructionsDone", "I", false)
def cty_SM : Nat → FieldType := fun k => match k with
  | 0 => (.object "StageMachine$Player")
  | 1 => .int
  | _ => .int
theorem cnm_SM : ∀ a, a < 3 → ∀ b, b < 3 → a ≠ b → (cT_SM a).2.1 ≠ (cT_SM b).2.1 := by decide +kernel
theorem ctk_SM : ∀ k, k < 3 → parseFieldDescriptor (cT_SM k).2.2.1 = some (cty_SM k) := by decide +kernel
def cT_Player : u_T := fun k => match k with
  | 0 => ("StageMachine$Player", "program", "LStageMachine$Bytes;", true)
  | 1 => ("StageMachine$Player", "variables", "[I", true)
  | 2 => ("StageMachine$Player", "channels", "[LStageMachine$Channel;", true)
  | 3 => ("StageMachine$Player", "painter", "LStageMachine$Painter;", true)
  | 4 => ("StageMachine$Player", "at", "I", false)
  | _ => ("StageMachine$Player", "goingOn", "Z", false)
def cty_Player : Nat → FieldType := fun k => match k with
  | 0 => (.object "StageMachine$Bytes")
  | 1 => (.array .int)
  | 2 => (.array (.object "StageMachine$Channel"))
  | 3 => (.object "StageMachine$Painter")
  | 4 => .int
  | _ => .boolean
theorem cnm_Player : ∀ a, a < 6 → ∀ b, b < 6 → a ≠ b → (cT_Player a).2.1 ≠ (cT_Player b).2.1 := by decide +kernel
theorem ctk_Player : ∀ k, k < 6 → parseFieldDescriptor (cT_Player k).2.2.1 = some (cty_Player k) := by decide +kernel
def cT_Bytes : u_T := fun k => match k with
  | _ => ("StageMachine$Bytes", "bytes", "[I", true)
def cty_Bytes : Nat → FieldType := fun k => match k with
  | _ => (.array .int)
theorem cnm_Bytes : ∀ a, a < 1 → ∀ b, b < 1 → a ≠ b → (cT_Bytes a).2.1 ≠ (cT_Bytes b).2.1 := by decide +kernel
theorem ctk_Bytes : ∀ k, k < 1 → parseFieldDescriptor (cT_Bytes k).2.2.1 = some (cty_Bytes k) := by decide +kernel
def cT_Painter : u_T := fun k => match k with
  | 0 => ("StageMachine$Painter", "shapes", "LStageMachine$Bytes;", true)
  | 1 => ("StageMachine$Painter", "pages", "LStageMachine$Pages;", true)
  | 2 => ("StageMachine$Painter", "rightXs", "[I", true)
  | 3 => ("StageMachine$Painter", "leftXs", "[I", true)
  | 4 => ("StageMachine$Painter", "pairYs", "[I", true)
  | 5 => ("StageMachine$Painter", "begunInDraw", "I", false)
  | 6 => ("StageMachine$Painter", "begunInFrame", "I", false)
  | _ => ("StageMachine$Painter", "rowsInFrame", "I", false)
def cty_Painter : Nat → FieldType := fun k => match k with
  | 0 => (.object "StageMachine$Bytes")
  | 1 => (.object "StageMachine$Pages")
  | 2 => (.array .int)
  | 3 => (.array .int)
  | 4 => (.array .int)
  | 5 => .int
  | 6 => .int
  | _ => .int
theorem cnm_Painter : ∀ a, a < 8 → ∀ b, b < 8 → a ≠ b → (cT_Painter a).2.1 ≠ (cT_Painter b).2.1 := by decide +kernel
theorem ctk_Painter : ∀ k, k < 8 → parseFieldDescriptor (cT_Painter k).2.2.1 = some (cty_Painter k) := by decide +kernel
def cT_Pages : u_T := fun k => match k with
  | 0 => ("StageMachine$Pages", "pixels", "[B", true)
  | 1 => ("StageMachine$Pages", "working", "I", false)
  | _ => ("StageMachine$Pages", "shown", "I", false)
def cty_Pages : Nat → FieldType := fun k => match k with
  | 0 => (.array .byte)
  | 1 => .int
  | _ => .int
theorem cnm_Pages : ∀ a, a < 3 → ∀ b, b < 3 → a ≠ b → (cT_Pages a).2.1 ≠ (cT_Pages b).2.1 := by decide +kernel
theorem ctk_Pages : ∀ k, k < 3 → parseFieldDescriptor (cT_Pages k).2.2.1 = some (cty_Pages k) := by decide +kernel
def cT_Channel : u_T := fun k => match k with
  | 0 => ("StageMachine$Channel", "pile", "[I", true)
  | 1 => ("StageMachine$Channel", "returns", "I", false)
  | 2 => ("StageMachine$Channel", "address", "I", false)
  | 3 => ("StageMachine$Channel", "paused", "Z", false)
  | 4 => ("StageMachine$Channel", "latestFault", "I", false)
  | 5 => ("StageMachine$Channel", "askedAddress", "I", false)
  | _ => ("StageMachine$Channel", "askedPause", "I", false)
def cty_Channel : Nat → FieldType := fun k => match k with
  | 0 => (.array .int)
  | 1 => .int
  | 2 => .int
  | 3 => .boolean
  | 4 => .int
  | 5 => .int
  | _ => .int
theorem cnm_Channel : ∀ a, a < 7 → ∀ b, b < 7 → a ≠ b → (cT_Channel a).2.1 ≠ (cT_Channel b).2.1 := by decide +kernel
theorem ctk_Channel : ∀ k, k < 7 → parseFieldDescriptor (cT_Channel k).2.2.1 = some (cty_Channel k) := by decide +kernel
def rT_Model : u_T := fun k => match k with
  | 0 => ("StageMachineModel", "program", "[I", true)
  | 1 => ("StageMachineModel", "shapes", "[I", true)
  | 2 => ("StageMachineModel", "variable", "[I", true)
  | 3 => ("StageMachineModel", "pixels", "[B", true)
  | 4 => ("StageMachineModel", "working", "I", false)
  | 5 => ("StageMachineModel", "shown", "I", false)
  | 6 => ("StageMachineModel", "address", "[I", true)
  | 7 => ("StageMachineModel", "many", "[I", true)
  | 8 => ("StageMachineModel", "faults", "[I", true)
  | 9 => ("StageMachineModel", "asked", "[I", true)
  | 10 => ("StageMachineModel", "askedPause", "[I", true)
  | 11 => ("StageMachineModel", "paused", "[Z", true)
  | 12 => ("StageMachineModel", "pile", "[I", true)
  | 13 => ("StageMachineModel", "frames", "I", false)
  | 14 => ("StageMachineModel", "done", "I", false)
  | 15 => ("StageMachineModel", "rows", "I", false)
  | 16 => ("StageMachineModel", "begun", "I", false)
  | 17 => ("StageMachineModel", "who", "I", false)
  | 18 => ("StageMachineModel", "at", "I", false)
  | 19 => ("StageMachineModel", "fault", "I", false)
  | 20 => ("StageMachineModel", "on", "Z", false)
  | 21 => ("StageMachineModel", "drawn", "I", false)
  | 22 => ("StageMachineModel", "zoom", "I", false)
  | 23 => ("StageMachineModel", "parts", "I", false)
  | 24 => ("StageMachineModel", "partAt", "[I", true)
  | 25 => ("StageMachineModel", "partX", "[I", true)
  | 26 => ("StageMachineModel", "partY", "[I", true)
  | 27 => ("StageMachineModel", "partColour", "[I", true)
  | 28 => ("StageMachineModel", "partWithin", "[I", true)
  | 29 => ("StageMachineModel", "reading", "I", false)
  | 30 => ("StageMachineModel", "right", "[I", true)
  | 31 => ("StageMachineModel", "left", "[I", true)
  | _ => ("StageMachineModel", "high", "[I", true)
def rty_Model : Nat → FieldType := fun k => match k with
  | 0 => (.array .int)
  | 1 => (.array .int)
  | 2 => (.array .int)
  | 3 => (.array .byte)
  | 4 => .int
  | 5 => .int
  | 6 => (.array .int)
  | 7 => (.array .int)
  | 8 => (.array .int)
  | 9 => (.array .int)
  | 10 => (.array .int)
  | 11 => (.array .boolean)
  | 12 => (.array .int)
  | 13 => .int
  | 14 => .int
  | 15 => .int
  | 16 => .int
  | 17 => .int
  | 18 => .int
  | 19 => .int
  | 20 => .boolean
  | 21 => .int
  | 22 => .int
  | 23 => .int
  | 24 => (.array .int)
  | 25 => (.array .int)
  | 26 => (.array .int)
  | 27 => (.array .int)
  | 28 => (.array .int)
  | 29 => .int
  | 30 => (.array .int)
  | 31 => (.array .int)
  | _ => (.array .int)
theorem rnm_Model : ∀ a, a < 33 → ∀ b, b < 33 → a ≠ b → (rT_Model a).2.1 ≠ (rT_Model b).2.1 := by decide +kernel
theorem rtk_Model : ∀ k, k < 33 → parseFieldDescriptor (rT_Model k).2.2.1 = some (rty_Model k) := by decide +kernel
abbrev gCl : List vw_C := [("StageMachine$Bytes", cT_Bytes, 1), ("StageMachine$Channel", cT_Channel, 7), ("StageMachine$Pages", cT_Pages, 3), ("StageMachine$Painter", cT_Painter, 8), ("StageMachine$Player", cT_Player, 6), ("StageMachine", cT_SM, 3), ("StageMachineModel", rT_Model, 33)]
abbrev gTys (cI cB cC cZ : ClassId) : List (ClassId × FieldType) := [(cI, .int), (cB, .byte), (cC, .object "StageMachine$Channel"), (cZ, .boolean)]
theorem cin_SM : ∀ w ∈ u_ws "StageMachine" cT_SM 3, w ∈ gTs := by
  intro w hw
  obtain ⟨k, hk, rfl⟩ := List.mem_map.mp hw
  have hk := List.mem_range.mp hk
  match k, hk with
  | 0, _ => exact tw_161
  | 1, _ => exact tw_163
  | 2, _ => exact tw_165
  | n + 3, h => exact absurd h (by omega)
theorem cin_Player : ∀ w ∈ u_ws "StageMachine$Player" cT_Player 6, w ∈ gTs := by
  intro w hw
  obtain ⟨k, hk, rfl⟩ := List.mem_map.mp hw
  have hk := List.mem_range.mp hk
  match k, hk with
  | 0, _ => exact tw_145
  | 1, _ => exact tw_147
  | 2, _ => exact tw_149
  | 3, _ => exact tw_151
  | 4, _ => exact tw_153
  | 5, _ => exact tw_155
  | n + 6, h => exact absurd h (by omega)
theorem cin_Bytes : ∀ w ∈ u_ws "StageMachine$Bytes" cT_Bytes 1, w ∈ gTs := by
  intro w hw
  obtain ⟨k, hk, rfl⟩ := List.mem_map.mp hw
  have hk := List.mem_range.mp hk
  match k, hk with
  | 0, _ => exact tw_32
  | n + 1, h => exact absurd h (by omega)
theorem cin_Painter : ∀ w ∈ u_ws "StageMachine$Painter" cT_Painter 8, w ∈ gTs := by
  intro w hw
  obtain ⟨k, hk, rfl⟩ := List.mem_map.mp hw
  have hk := List.mem_range.mp hk
  match k, hk with
  | 0, _ => exact tw_82
  | 1, _ => exact tw_84
  | 2, _ => exact tw_86
  | 3, _ => exact tw_88
  | 4, _ => exact tw_90
  | 5, _ => exact tw_92
  | 6, _ => exact tw_94
  | 7, _ => exact tw_96
  | n + 8, h => exact absurd h (by omega)
theorem cin_Pages : ∀ w ∈ u_ws "StageMachine$Pages" cT_Pages 3, w ∈ gTs := by
  intro w hw
  obtain ⟨k, hk, rfl⟩ := List.mem_map.mp hw
  have hk := List.mem_range.mp hk
  match k, hk with
  | 0, _ => exact tw_60
  | 1, _ => exact tw_62
  | 2, _ => exact tw_64
  | n + 3, h => exact absurd h (by omega)
theorem cin_Channel : ∀ w ∈ u_ws "StageMachine$Channel" cT_Channel 7, w ∈ gTs := by
  intro w hw
  obtain ⟨k, hk, rfl⟩ := List.mem_map.mp hw
  have hk := List.mem_range.mp hk
  match k, hk with
  | 0, _ => exact tw_120
  | 1, _ => exact tw_122
  | 2, _ => exact tw_124
  | 3, _ => exact tw_126
  | 4, _ => exact tw_128
  | 5, _ => exact tw_130
  | 6, _ => exact tw_132
  | n + 7, h => exact absurd h (by omega)
def cE (ad : Nat → Nat) (cI cB cC : ClassId) : Nat → (Nat → Int32) → va_E
  | 0, x => .inr (5, [.ref (ad 1), .int (x 1), .int (x 2)])
  | 1, x => .inr (4, [.ref (ad 2), .ref (ad 4), .ref (ad 5), .ref (ad 6), .int (x 4), .int (x 5)])
  | 2, _ => .inr (0, [.ref (ad 3)])
  | 3, x => .inl (cI, 1024, .inl x)
  | 4, x => .inl (cI, 32, .inl x)
  | 5, _ => .inl (cC, 16, .inr (.inr (.inr (.inr (fun k => some (ad (k + 14)))))))
  | 6, x => .inr (3, [.ref (ad 7), .ref (ad 9), .ref (ad 11), .ref (ad 12), .ref (ad 13), .int (x 5), .int (x 6), .int (x 7)])
  | 7, _ => .inr (0, [.ref (ad 8)])
  | 8, x => .inl (cI, 1024, .inl x)
  | 9, x => .inr (2, [.ref (ad 10), .int (x 1), .int (x 2)])
  | 10, x => .inl (cB, 10240, .inl x)
  | 11, x => .inl (cI, 16, .inl x)
  | 12, x => .inl (cI, 16, .inl x)
  | 13, x => .inl (cI, 16, .inl x)
  | n + 14, x => if n < 16 then .inr (1, [.ref (ad (n + 30)), .int (x 1), .int (x 2), .int (x 3), .int (x 4), .int (x 5), .int (x 6)]) else .inl (cI, 8, .inl x)
section
variable {ad : Nat → Nat} {cI cB cC cZ : ClassId} {x : Nat → Int32}
theorem cE_SM : cE ad cI cB cC 0 x = .inr (5, [.ref (ad 1), .int (x 1), .int (x 2)]) := rfl
theorem cE_Player : cE ad cI cB cC 1 x = .inr (4, [.ref (ad 2), .ref (ad 4), .ref (ad 5), .ref (ad 6), .int (x 4), .int (x 5)]) := rfl
theorem cE_Vars : cE ad cI cB cC 4 x = .inl (cI, 32, .inl x) := rfl
theorem cE_Chans : cE ad cI cB cC 5 x = .inl (cC, 16, .inr (.inr (.inr (.inr (fun k => some (ad (k + 14))))))) := rfl
theorem cE_Painter : cE ad cI cB cC 6 x = .inr (3, [.ref (ad 7), .ref (ad 9), .ref (ad 11), .ref (ad 12), .ref (ad 13), .int (x 5), .int (x 6), .int (x 7)]) := rfl
theorem cE_Pages : cE ad cI cB cC 9 x = .inr (2, [.ref (ad 10), .int (x 1), .int (x 2)]) := rfl
theorem cE_Pix : cE ad cI cB cC 10 x = .inl (cB, 10240, .inl x) := rfl
theorem cE_RXs : cE ad cI cB cC 11 x = .inl (cI, 16, .inl x) := rfl
theorem cE_LXs : cE ad cI cB cC 12 x = .inl (cI, 16, .inl x) := rfl
theorem cE_PYs : cE ad cI cB cC 13 x = .inl (cI, 16, .inl x) := rfl
theorem cE_Bytes {b : Nat} (h : b = 2 ∨ b = 7) : cE ad cI cB cC b x = .inr (0, [.ref (ad (b + 1))]) := by rcases h with rfl | rfl <;> rfl
theorem cE_BArr {b : Nat} (h : b = 2 ∨ b = 7) : cE ad cI cB cC (b + 1) x = .inl (cI, 1024, .inl x) := by rcases h with rfl | rfl <;> rfl
theorem cE_Channel {j : Nat} (h : j < 16) : cE ad cI cB cC (j + 14) x = .inr (1, [.ref (ad (j + 30)), .int (x 1), .int (x 2), .int (x 3), .int (x 4), .int (x 5), .int (x 6)]) := by show (if j < 16 then _ else _) = _; exact if_pos h
theorem cE_Pile {j : Nat} (h : j < 16) : cE ad cI cB cC (j + 30) x = .inl (cI, 8, .inl x) := rfl
theorem chi_Bytes {b : Nat} (h : b = 2 ∨ b = 7) : b < 46 := by omega
theorem chi_BArr {b : Nat} (h : b = 2 ∨ b = 7) : b + 1 < 46 := by omega
theorem chi_Channel {j : Nat} (h : j < 16) : j + 14 < 46 := by omega
theorem chi_Pile {j : Nat} (h : j < 16) : j + 30 < 46 := by omega
end
section
variable {l : Launch} {D : va_G} {cI cB cC cZ : ClassId} {ad : Nat → Nat} {α : Type} {X : gx_M} {cc : ByteArray} {nL : Nat} {ret : Option FieldType} {own : String} {rm : Room} {A : Nat → Prop} {rv : α → Option Value} {S : gw_S} {pc : Nat} {lv : List (Nat × Value)} {rest : List Value} {ans : α × gw_S}
theorem cg_SM_player (F : gw_F X l cc nL ret own gTs rm D gCl (gTys cI cB cC cZ) 46 ad A) {index : Nat} (hl : Cond.fieldLink own index "StageMachine" "player" "LStageMachine$Player;" ∈ gTs) (hd : decode cc pc = .ok (.getfield index, 3)) (kk : gw_V X (gw_P D gCl 46 ad (cE ad cI cB cC)) A nL rv S (pc + 3) lv (.ref (ad 1) :: rest) ans) : gw_V X (gw_P D gCl 46 ad (cE ad cI cB cC)) A nL rv S pc lv (.ref (ad 0) :: rest) ans := gw_get F cin_SM 0 (by decide) cE_SM rfl 0 (by decide) hl rfl rfl hd kk
theorem cgN_SM_player (F : gw_F X l cc nL ret own gTs rm D gCl (gTys cI cB cC cZ) 46 ad A) {index : Nat} {host : String} (hl : Cond.fieldLinkNest own index "StageMachine" "player" "LStageMachine$Player;" host ∈ gTs) (hd : decode cc pc = .ok (.getfield index, 3)) (kk : gw_V X (gw_P D gCl 46 ad (cE ad cI cB cC)) A nL rv S (pc + 3) lv (.ref (ad 1) :: rest) ans) : gw_V X (gw_P D gCl 46 ad (cE ad cI cB cC)) A nL rv S pc lv (.ref (ad 0) :: rest) ans := gw_getN F cin_SM 0 (by decide) cE_SM rfl 0 (by decide) hl rfl rfl hd kk
theorem cg_SM_frames (F : gw_F X l cc nL ret own gTs rm D gCl (gTys cI cB cC cZ) 46 ad A) {index : Nat} (hl : Cond.fieldLink own index "StageMachine" "frames" "I" ∈ gTs) (hd : decode cc pc = .ok (.getfield index, 3)) (kk : gw_V X (gw_P D gCl 46 ad (cE ad cI cB cC)) A nL rv S (pc + 3) lv (.int (S 0 1) :: rest) ans) : gw_V X (gw_P D gCl 46 ad (cE ad cI cB cC)) A nL rv S pc lv (.ref (ad 0) :: rest) ans := gw_get F cin_SM 0 (by decide) cE_SM rfl 1 (by decide) hl rfl rfl hd kk
theorem cp_SM_frames (F : gw_F X l cc nL ret own gTs rm D gCl (gTys cI cB cC cZ) 46 ad A) {index : Nat} {x : Int32} (hl : Cond.fieldLink own index "StageMachine" "frames" "I" ∈ gTs) (hd : decode cc pc = .ok (.putfield index, 3)) (kk : gw_V X (gw_P D gCl 46 ad (cE ad cI cB cC)) A nL rv (gw_u S 0 1 x) (pc + 3) lv rest ans) : gw_V X (gw_P D gCl 46 ad (cE ad cI cB cC)) A nL rv S pc lv (.int x :: .ref (ad 0) :: rest) ans := gw_put F cin_SM cty_SM ctk_SM cnm_SM 0 (by decide) cE_SM rfl 1 (by decide) hl rfl rfl (ctk_SM 1 (by decide)) rfl rfl (Nat.le_of_ble_eq_true rfl) ((cE_SM).trans rfl) hd kk
theorem cgN_SM_frames (F : gw_F X l cc nL ret own gTs rm D gCl (gTys cI cB cC cZ) 46 ad A) {index : Nat} {host : String} (hl : Cond.fieldLinkNest own index "StageMachine" "frames" "I" host ∈ gTs) (hd : decode cc pc = .ok (.getfield index, 3)) (kk : gw_V X (gw_P D gCl 46 ad (cE ad cI cB cC)) A nL rv S (pc + 3) lv (.int (S 0 1) :: rest) ans) : gw_V X (gw_P D gCl 46 ad (cE ad cI cB cC)) A nL rv S pc lv (.ref (ad 0) :: rest) ans := gw_getN F cin_SM 0 (by decide) cE_SM rfl 1 (by decide) hl rfl rfl hd kk
theorem cpN_SM_frames (F : gw_F X l cc nL ret own gTs rm D gCl (gTys cI cB cC cZ) 46 ad A) {index : Nat} {host : String} {x : Int32} (hl : Cond.fieldLinkNest own index "StageMachine" "frames" "I" host ∈ gTs) (hd : decode cc pc = .ok (.putfield index, 3)) (kk : gw_V X (gw_P D gCl 46 ad (cE ad cI cB cC)) A nL rv (gw_u S 0 1 x) (pc + 3) lv rest ans) : gw_V X (gw_P D gCl 46 ad (cE ad cI cB cC)) A nL rv S pc lv (.int x :: .ref (ad 0) :: rest) ans := gw_putN F cin_SM cty_SM ctk_SM cnm_SM 0 (by decide) cE_SM rfl 1 (by decide) hl rfl rfl (ctk_SM 1 (by decide)) rfl rfl (Nat.le_of_ble_eq_true rfl) ((cE_SM).trans rfl) hd kk
theorem cg_SM_instructionsDone (F : gw_F X l cc nL ret own gTs rm D gCl (gTys cI cB cC cZ) 46 ad A) {index : Nat} (hl : Cond.fieldLink own index "StageMachine" "instructionsDone" "I" ∈ gTs) (hd : decode cc pc = .ok (.getfield index, 3)) (kk : gw_V X (gw_P D gCl 46 ad (cE ad cI cB cC)) A nL rv S (pc + 3) lv (.int (S 0 2) :: rest) ans) : gw_V X (gw_P D gCl 46 ad (cE ad cI cB cC)) A nL rv S pc lv (.ref (ad 0) :: rest) ans := gw_get F cin_SM 0 (by decide) cE_SM rfl 2 (by decide) hl rfl rfl hd kk
theorem cp_SM_instructionsDone (F : gw_F X l cc nL ret own gTs rm D gCl (gTys cI cB cC cZ) 46 ad A) {index : Nat} {x : Int32} (hl : Cond.fieldLink own index "StageMachine" "instructionsDone" "I" ∈ gTs) (hd : decode cc pc = .ok (.putfield index, 3)) (kk : gw_V X (gw_P D gCl 46 ad (cE ad cI cB cC)) A nL rv (gw_u S 0 2 x) (pc + 3) lv rest ans) : gw_V X (gw_P D gCl 46 ad (cE ad cI cB cC)) A nL rv S pc lv (.int x :: .ref (ad 0) :: rest) ans := gw_put F cin_SM cty_SM ctk_SM cnm_SM 0 (by decide) cE_SM rfl 2 (by decide) hl rfl rfl (ctk_SM 2 (by decide)) rfl rfl (Nat.le_of_ble_eq_true rfl) ((cE_SM).trans rfl) hd kk
theorem cgN_SM_instructionsDone (F : gw_F X l cc nL ret own gTs rm D gCl (gTys cI cB cC cZ) 46 ad A) {index : Nat} {host : String} (hl : Cond.fieldLinkNest own index "StageMachine" "instructionsDone" "I" host ∈ gTs) (hd : decode cc pc = .ok (.getfield index, 3)) (kk : gw_V X (gw_P D gCl 46 ad (cE ad cI cB cC)) A nL rv S (pc + 3) lv (.int (S 0 2) :: rest) ans) : gw_V X (gw_P D gCl 46 ad (cE ad cI cB cC)) A nL rv S pc lv (.ref (ad 0) :: rest) ans := gw_getN F cin_SM 0 (by decide) cE_SM rfl 2 (by decide) hl rfl rfl hd kk
theorem cpN_SM_instructionsDone (F : gw_F X l cc nL ret own gTs rm D gCl (gTys cI cB cC cZ) 46 ad A) {index : Nat} {host : String} {x : Int32} (hl : Cond.fieldLinkNest own index "StageMachine" "instructionsDone" "I" host ∈ gTs) (hd : decode cc pc = .ok (.putfield index, 3)) (kk : gw_V X (gw_P D gCl 46 ad (cE ad cI cB cC)) A nL rv (gw_u S 0 2 x) (pc + 3) lv rest ans) : gw_V X (gw_P D gCl 46 ad (cE ad cI cB cC)) A nL rv S pc lv (.int x :: .ref (ad 0) :: rest) ans := gw_putN F cin_SM cty_SM ctk_SM cnm_SM 0 (by decide) cE_SM rfl 2 (by decide) hl rfl rfl (ctk_SM 2 (by decide)) rfl rfl (Nat.le_of_ble_eq_true rfl) ((cE_SM).trans rfl) hd kk
theorem cg_Player_program (F : gw_F X l cc nL ret own gTs rm D gCl (gTys cI cB cC cZ) 46 ad A) {index : Nat} (hl : Cond.fieldLink own index "StageMachine$Player" "program" "LStageMachine$Bytes;" ∈ gTs) (hd : decode cc pc = .ok (.getfield index, 3)) (kk : gw_V X (gw_P D gCl 46 ad (cE ad cI cB cC)) A nL rv S (pc + 3) lv (.ref (ad 2) :: rest) ans) : gw_V X (gw_P D gCl 46 ad (cE ad cI cB cC)) A nL rv S pc lv (.ref (ad 1) :: rest) ans := gw_get F cin_Player 1 (by decide) cE_Player rfl 0 (by decide) hl rfl rfl hd kk
theorem cgN_Player_program (F : gw_F X l cc nL ret own gTs rm D gCl (gTys cI cB cC cZ) 46 ad A) {index : Nat} {host : String} (hl : Cond.fieldLinkNest own index "StageMachine$Player" "program" "LStageMachine$Bytes;" host ∈ gTs) (hd : decode cc pc = .ok (.getfield index, 3)) (kk : gw_V X (gw_P D gCl 46 ad (cE ad cI cB cC)) A nL rv S (pc + 3) lv (.ref (ad 2) :: rest) ans) : gw_V X (gw_P D gCl 46 ad (cE ad cI cB cC)) A nL rv S pc lv (.ref (ad 1) :: rest) ans := gw_getN F cin_Player 1 (by decide) cE_Player rfl 0 (by decide) hl rfl rfl hd kk
theorem cg_Player_variables (F : gw_F X l cc nL ret own gTs rm D gCl (gTys cI cB cC cZ) 46 ad A) {index : Nat} (hl : Cond.fieldLink own index "StageMachine$Player" "variables" "[I" ∈ gTs) (hd : decode cc pc = .ok (.getfield index, 3)) (kk : gw_V X (gw_P D gCl 46 ad (cE ad cI cB cC)) A nL rv S (pc + 3) lv (.ref (ad 4) :: rest) ans) : gw_V X (gw_P D gCl 46 ad (cE ad cI cB cC)) A nL rv S pc lv (.ref (ad 1) :: rest) ans := gw_get F cin_Player 1 (by decide) cE_Player rfl 1 (by decide) hl rfl rfl hd kk
theorem cgN_Player_variables (F : gw_F X l cc nL ret own gTs rm D gCl (gTys cI cB cC cZ) 46 ad A) {index : Nat} {host : String} (hl : Cond.fieldLinkNest own index "StageMachine$Player" "variables" "[I" host ∈ gTs) (hd : decode cc pc = .ok (.getfield index, 3)) (kk : gw_V X (gw_P D gCl 46 ad (cE ad cI cB cC)) A nL rv S (pc + 3) lv (.ref (ad 4) :: rest) ans) : gw_V X (gw_P D gCl 46 ad (cE ad cI cB cC)) A nL rv S pc lv (.ref (ad 1) :: rest) ans := gw_getN F cin_Player 1 (by decide) cE_Player rfl 1 (by decide) hl rfl rfl hd kk
theorem cg_Player_channels (F : gw_F X l cc nL ret own gTs rm D gCl (gTys cI cB cC cZ) 46 ad A) {index : Nat} (hl : Cond.fieldLink own index "StageMachine$Player" "channels" "[LStageMachine$Channel;" ∈ gTs) (hd : decode cc pc = .ok (.getfield index, 3)) (kk : gw_V X (gw_P D gCl 46 ad (cE ad cI cB cC)) A nL rv S (pc + 3) lv (.ref (ad 5) :: rest) ans) : gw_V X (gw_P D gCl 46 ad (cE ad cI cB cC)) A nL rv S pc lv (.ref (ad 1) :: rest) ans := gw_get F cin_Player 1 (by decide) cE_Player rfl 2 (by decide) hl rfl rfl hd kk
theorem cgN_Player_channels (F : gw_F X l cc nL ret own gTs rm D gCl (gTys cI cB cC cZ) 46 ad A) {index : Nat} {host : String} (hl : Cond.fieldLinkNest own index "StageMachine$Player" "channels" "[LStageMachine$Channel;" host ∈ gTs) (hd : decode cc pc = .ok (.getfield index, 3)) (kk : gw_V X (gw_P D gCl 46 ad (cE ad cI cB cC)) A nL rv S (pc + 3) lv (.ref (ad 5) :: rest) ans) : gw_V X (gw_P D gCl 46 ad (cE ad cI cB cC)) A nL rv S pc lv (.ref (ad 1) :: rest) ans := gw_getN F cin_Player 1 (by decide) cE_Player rfl 2 (by decide) hl rfl rfl hd kk
theorem cg_Player_painter (F : gw_F X l cc nL ret own gTs rm D gCl (gTys cI cB cC cZ) 46 ad A) {index : Nat} (hl : Cond.fieldLink own index "StageMachine$Player" "painter" "LStageMachine$Painter;" ∈ gTs) (hd : decode cc pc = .ok (.getfield index, 3)) (kk : gw_V X (gw_P D gCl 46 ad (cE ad cI cB cC)) A nL rv S (pc + 3) lv (.ref (ad 6) :: rest) ans) : gw_V X (gw_P D gCl 46 ad (cE ad cI cB cC)) A nL rv S pc lv (.ref (ad 1) :: rest) ans := gw_get F cin_Player 1 (by decide) cE_Player rfl 3 (by decide) hl rfl rfl hd kk
theorem cgN_Player_painter (F : gw_F X l cc nL ret own gTs rm D gCl (gTys cI cB cC cZ) 46 ad A) {index : Nat} {host : String} (hl : Cond.fieldLinkNest own index "StageMachine$Player" "painter" "LStageMachine$Painter;" host ∈ gTs) (hd : decode cc pc = .ok (.getfield index, 3)) (kk : gw_V X (gw_P D gCl 46 ad (cE ad cI cB cC)) A nL rv S (pc + 3) lv (.ref (ad 6) :: rest) ans) : gw_V X (gw_P D gCl 46 ad (cE ad cI cB cC)) A nL rv S pc lv (.ref (ad 1) :: rest) ans := gw_getN F cin_Player 1 (by decide) cE_Player rfl 3 (by decide) hl rfl rfl hd kk
theorem cg_Player_at (F : gw_F X l cc nL ret own gTs rm D gCl (gTys cI cB cC cZ) 46 ad A) {index : Nat} (hl : Cond.fieldLink own index "StageMachine$Player" "at" "I" ∈ gTs) (hd : decode cc pc = .ok (.getfield index, 3)) (kk : gw_V X (gw_P D gCl 46 ad (cE ad cI cB cC)) A nL rv S (pc + 3) lv (.int (S 1 4) :: rest) ans) : gw_V X (gw_P D gCl 46 ad (cE ad cI cB cC)) A nL rv S pc lv (.ref (ad 1) :: rest) ans := gw_get F cin_Player 1 (by decide) cE_Player rfl 4 (by decide) hl rfl rfl hd kk
theorem cp_Player_at (F : gw_F X l cc nL ret own gTs rm D gCl (gTys cI cB cC cZ) 46 ad A) {index : Nat} {x : Int32} (hl : Cond.fieldLink own index "StageMachine$Player" "at" "I" ∈ gTs) (hd : decode cc pc = .ok (.putfield index, 3)) (kk : gw_V X (gw_P D gCl 46 ad (cE ad cI cB cC)) A nL rv (gw_u S 1 4 x) (pc + 3) lv rest ans) : gw_V X (gw_P D gCl 46 ad (cE ad cI cB cC)) A nL rv S pc lv (.int x :: .ref (ad 1) :: rest) ans := gw_put F cin_Player cty_Player ctk_Player cnm_Player 1 (by decide) cE_Player rfl 4 (by decide) hl rfl rfl (ctk_Player 4 (by decide)) rfl rfl (Nat.le_of_ble_eq_true rfl) ((cE_Player).trans rfl) hd kk
theorem cgN_Player_at (F : gw_F X l cc nL ret own gTs rm D gCl (gTys cI cB cC cZ) 46 ad A) {index : Nat} {host : String} (hl : Cond.fieldLinkNest own index "StageMachine$Player" "at" "I" host ∈ gTs) (hd : decode cc pc = .ok (.getfield index, 3)) (kk : gw_V X (gw_P D gCl 46 ad (cE ad cI cB cC)) A nL rv S (pc + 3) lv (.int (S 1 4) :: rest) ans) : gw_V X (gw_P D gCl 46 ad (cE ad cI cB cC)) A nL rv S pc lv (.ref (ad 1) :: rest) ans := gw_getN F cin_Player 1 (by decide) cE_Player rfl 4 (by decide) hl rfl rfl hd kk
theorem cpN_Player_at (F : gw_F X l cc nL ret own gTs rm D gCl (gTys cI cB cC cZ) 46 ad A) {index : Nat} {host : String} {x : Int32} (hl : Cond.fieldLinkNest own index "StageMachine$Player" "at" "I" host ∈ gTs) (hd : decode cc pc = .ok (.putfield index, 3)) (kk : gw_V X (gw_P D gCl 46 ad (cE ad cI cB cC)) A nL rv (gw_u S 1 4 x) (pc + 3) lv rest ans) : gw_V X (gw_P D gCl 46 ad (cE ad cI cB cC)) A nL rv S pc lv (.int x :: .ref (ad 1) :: rest) ans := gw_putN F cin_Player cty_Player ctk_Player cnm_Player 1 (by decide) cE_Player rfl 4 (by decide) hl rfl rfl (ctk_Player 4 (by decide)) rfl rfl (Nat.le_of_ble_eq_true rfl) ((cE_Player).trans rfl) hd kk
theorem cg_Player_goingOn (F : gw_F X l cc nL ret own gTs rm D gCl (gTys cI cB cC cZ) 46 ad A) {index : Nat} (hl : Cond.fieldLink own index "StageMachine$Player" "goingOn" "Z" ∈ gTs) (hd : decode cc pc = .ok (.getfield index, 3)) (kk : gw_V X (gw_P D gCl 46 ad (cE ad cI cB cC)) A nL rv S (pc + 3) lv (.int (S 1 5) :: rest) ans) : gw_V X (gw_P D gCl 46 ad (cE ad cI cB cC)) A nL rv S pc lv (.ref (ad 1) :: rest) ans := gw_get F cin_Player 1 (by decide) cE_Player rfl 5 (by decide) hl rfl rfl hd kk
theorem cp_Player_goingOn (F : gw_F X l cc nL ret own gTs rm D gCl (gTys cI cB cC cZ) 46 ad A) {index : Nat} {x : Int32} (hl : Cond.fieldLink own index "StageMachine$Player" "goingOn" "Z" ∈ gTs) (hd : decode cc pc = .ok (.putfield index, 3)) (hn : narrow .boolean (.int x) = .int x) (hf : fits .boolean (.int x) = true) (kk : gw_V X (gw_P D gCl 46 ad (cE ad cI cB cC)) A nL rv (gw_u S 1 5 x) (pc + 3) lv rest ans) : gw_V X (gw_P D gCl 46 ad (cE ad cI cB cC)) A nL rv S pc lv (.int x :: .ref (ad 1) :: rest) ans := gw_put F cin_Player cty_Player ctk_Player cnm_Player 1 (by decide) cE_Player rfl 5 (by decide) hl rfl rfl (ctk_Player 5 (by decide)) hn hf (Nat.le_of_ble_eq_true rfl) ((cE_Player).trans rfl) hd kk
theorem cgN_Player_goingOn (F : gw_F X l cc nL ret own gTs rm D gCl (gTys cI cB cC cZ) 46 ad A) {index : Nat} {host : String} (hl : Cond.fieldLinkNest own index "StageMachine$Player" "goingOn" "Z" host ∈ gTs) (hd : decode cc pc = .ok (.getfield index, 3)) (kk : gw_V X (gw_P D gCl 46 ad (cE ad cI cB cC)) A nL rv S (pc + 3) lv (.int (S 1 5) :: rest) ans) : gw_V X (gw_P D gCl 46 ad (cE ad cI cB cC)) A nL rv S pc lv (.ref (ad 1) :: rest) ans := gw_getN F cin_Player 1 (by decide) cE_Player rfl 5 (by decide) hl rfl rfl hd kk
theorem cpN_Player_goingOn (F : gw_F X l cc nL ret own gTs rm D gCl (gTys cI cB cC cZ) 46 ad A) {index : Nat} {host : String} {x : Int32} (hl : Cond.fieldLinkNest own index "StageMachine$Player" "goingOn" "Z" host ∈ gTs) (hd : decode cc pc = .ok (.putfield index, 3)) (hn : narrow .boolean (.int x) = .int x) (hf : fits .boolean (.int x) = true) (kk : gw_V X (gw_P D gCl 46 ad (cE ad cI cB cC)) A nL rv (gw_u S 1 5 x) (pc + 3) lv rest ans) : gw_V X (gw_P D gCl 46 ad (cE ad cI cB cC)) A nL rv S pc lv (.int x :: .ref (ad 1) :: rest) ans := gw_putN F cin_Player cty_Player ctk_Player cnm_Player 1 (by decide) cE_Player rfl 5 (by decide) hl rfl rfl (ctk_Player 5 (by decide)) hn hf (Nat.le_of_ble_eq_true rfl) ((cE_Player).trans rfl) hd kk
theorem cg_Bytes_bytes (F : gw_F X l cc nL ret own gTs rm D gCl (gTys cI cB cC cZ) 46 ad A) {b : Nat} (h : b = 2 ∨ b = 7) {index : Nat} (hl : Cond.fieldLink own index "StageMachine$Bytes" "bytes" "[I" ∈ gTs) (hd : decode cc pc = .ok (.getfield index, 3)) (kk : gw_V X (gw_P D gCl 46 ad (cE ad cI cB cC)) A nL rv S (pc + 3) lv (.ref (ad (b + 1)) :: rest) ans) : gw_V X (gw_P D gCl 46 ad (cE ad cI cB cC)) A nL rv S pc lv (.ref (ad b) :: rest) ans := gw_get F cin_Bytes b (chi_Bytes h) (cE_Bytes h) rfl 0 (by decide) hl rfl rfl hd kk
theorem cgN_Bytes_bytes (F : gw_F X l cc nL ret own gTs rm D gCl (gTys cI cB cC cZ) 46 ad A) {b : Nat} (h : b = 2 ∨ b = 7) {index : Nat} {host : String} (hl : Cond.fieldLinkNest own index "StageMachine$Bytes" "bytes" "[I" host ∈ gTs) (hd : decode cc pc = .ok (.getfield index, 3)) (kk : gw_V X (gw_P D gCl 46 ad (cE ad cI cB cC)) A nL rv S (pc + 3) lv (.ref (ad (b + 1)) :: rest) ans) : gw_V X (gw_P D gCl 46 ad (cE ad cI cB cC)) A nL rv S pc lv (.ref (ad b) :: rest) ans := gw_getN F cin_Bytes b (chi_Bytes h) (cE_Bytes h) rfl 0 (by decide) hl rfl rfl hd kk
theorem cl_BArr (F : gw_F X l cc nL ret own gTs rm D gCl (gTys cI cB cC cZ) 46 ad A) {b : Nat} (h : b = 2 ∨ b = 7) {j : Int32} (hin : vp_in j 1024) (hd : decode cc pc = .ok (.iaload, 1)) (kk : gw_V X (gw_P D gCl 46 ad (cE ad cI cB cC)) A nL rv S (pc + 1) lv (.int (S (b + 1) j.toNatClampNeg) :: rest) ans) : gw_V X (gw_P D gCl 46 ad (cE ad cI cB cC)) A nL rv S pc lv (.int j :: .ref (ad (b + 1)) :: rest) ans := gw_iald F (b + 1) 0 (chi_BArr h) (cE_BArr h) rfl hin hd kk
theorem cs_BArr (F : gw_F X l cc nL ret own gTs rm D gCl (gTys cI cB cC cZ) 46 ad A) {b : Nat} (h : b = 2 ∨ b = 7) {j x : Int32} (hin : vp_in j 1024) (hd : decode cc pc = .ok (.iastore, 1)) (kk : gw_V X (gw_P D gCl 46 ad (cE ad cI cB cC)) A nL rv (gw_u S (b + 1) j.toNatClampNeg x) (pc + 1) lv rest ans) : gw_V X (gw_P D gCl 46 ad (cE ad cI cB cC)) A nL rv S pc lv (.int x :: .int j :: .ref (ad (b + 1)) :: rest) ans := gw_iast F (b + 1) 0 (chi_BArr h) (cE_BArr h) rfl hin (cE_BArr h) hd kk
theorem cn_BArr (F : gw_F X l cc nL ret own gTs rm D gCl (gTys cI cB cC cZ) 46 ad A) {b : Nat} (h : b = 2 ∨ b = 7) (hd : decode cc pc = .ok (.arraylength, 1)) (kk : gw_V X (gw_P D gCl 46 ad (cE ad cI cB cC)) A nL rv S (pc + 1) lv (.int (1024 : Int32) :: rest) ans) : gw_V X (gw_P D gCl 46 ad (cE ad cI cB cC)) A nL rv S pc lv (.ref (ad (b + 1)) :: rest) ans := gw_alen F (b + 1) 0 (chi_BArr h) (cE_BArr h) rfl rfl hd kk
theorem cl_Vars (F : gw_F X l cc nL ret own gTs rm D gCl (gTys cI cB cC cZ) 46 ad A) {j : Int32} (hin : vp_in j 32) (hd : decode cc pc = .ok (.iaload, 1)) (kk : gw_V X (gw_P D gCl 46 ad (cE ad cI cB cC)) A nL rv S (pc + 1) lv (.int (S 4 j.toNatClampNeg) :: rest) ans) : gw_V X (gw_P D gCl 46 ad (cE ad cI cB cC)) A nL rv S pc lv (.int j :: .ref (ad 4) :: rest) ans := gw_iald F 4 0 (by decide) cE_Vars rfl hin hd kk
theorem cs_Vars (F : gw_F X l cc nL ret own gTs rm D gCl (gTys cI cB cC cZ) 46 ad A) {j x : Int32} (hin : vp_in j 32) (hd : decode cc pc = .ok (.iastore, 1)) (kk : gw_V X (gw_P D gCl 46 ad (cE ad cI cB cC)) A nL rv (gw_u S 4 j.toNatClampNeg x) (pc + 1) lv rest ans) : gw_V X (gw_P D gCl 46 ad (cE ad cI cB cC)) A nL rv S pc lv (.int x :: .int j :: .ref (ad 4) :: rest) ans := gw_iast F 4 0 (by decide) cE_Vars rfl hin cE_Vars hd kk
theorem cn_Vars (F : gw_F X l cc nL ret own gTs rm D gCl (gTys cI cB cC cZ) 46 ad A) (hd : decode cc pc = .ok (.arraylength, 1)) (kk : gw_V X (gw_P D gCl 46 ad (cE ad cI cB cC)) A nL rv S (pc + 1) lv (.int (32 : Int32) :: rest) ans) : gw_V X (gw_P D gCl 46 ad (cE ad cI cB cC)) A nL rv S pc lv (.ref (ad 4) :: rest) ans := gw_alen F 4 0 (by decide) cE_Vars rfl rfl hd kk
theorem cl_Chans (F : gw_F X l cc nL ret own gTs rm D gCl (gTys cI cB cC cZ) 46 ad A) {j : Int32} (hin : vp_in j 16) (hd : decode cc pc = .ok (.aaload, 1)) (kk : gw_V X (gw_P D gCl 46 ad (cE ad cI cB cC)) A nL rv S (pc + 1) lv (.ref (ad (j.toNatClampNeg + 14)) :: rest) ans) : gw_V X (gw_P D gCl 46 ad (cE ad cI cB cC)) A nL rv S pc lv (.int j :: .ref (ad 5) :: rest) ans := gw_aald F 5 2 (by decide) cE_Chans rfl hin rfl hd kk
theorem cg_Painter_shapes (F : gw_F X l cc nL ret own gTs rm D gCl (gTys cI cB cC cZ) 46 ad A) {index : Nat} (hl : Cond.fieldLink own index "StageMachine$Painter" "shapes" "LStageMachine$Bytes;" ∈ gTs) (hd : decode cc pc = .ok (.getfield index, 3)) (kk : gw_V X (gw_P D gCl 46 ad (cE ad cI cB cC)) A nL rv S (pc + 3) lv (.ref (ad 7) :: rest) ans) : gw_V X (gw_P D gCl 46 ad (cE ad cI cB cC)) A nL rv S pc lv (.ref (ad 6) :: rest) ans := gw_get F cin_Painter 6 (by decide) cE_Painter rfl 0 (by decide) hl rfl rfl hd kk
theorem cgN_Painter_shapes (F : gw_F X l cc nL ret own gTs rm D gCl (gTys cI cB cC cZ) 46 ad A) {index : Nat} {host : String} (hl : Cond.fieldLinkNest own index "StageMachine$Painter" "shapes" "LStageMachine$Bytes;" host ∈ gTs) (hd : decode cc pc = .ok (.getfield index, 3)) (kk : gw_V X (gw_P D gCl 46 ad (cE ad cI cB cC)) A nL rv S (pc + 3) lv (.ref (ad 7) :: rest) ans) : gw_V X (gw_P D gCl 46 ad (cE ad cI cB cC)) A nL rv S pc lv (.ref (ad 6) :: rest) ans := gw_getN F cin_Painter 6 (by decide) cE_Painter rfl 0 (by decide) hl rfl rfl hd kk
theorem cg_Painter_pages (F : gw_F X l cc nL ret own gTs rm D gCl (gTys cI cB cC cZ) 46 ad A) {index : Nat} (hl : Cond.fieldLink own index "StageMachine$Painter" "pages" "LStageMachine$Pages;" ∈ gTs) (hd : decode cc pc = .ok (.getfield index, 3)) (kk : gw_V X (gw_P D gCl 46 ad (cE ad cI cB cC)) A nL rv S (pc + 3) lv (.ref (ad 9) :: rest) ans) : gw_V X (gw_P D gCl 46 ad (cE ad cI cB cC)) A nL rv S pc lv (.ref (ad 6) :: rest) ans := gw_get F cin_Painter 6 (by decide) cE_Painter rfl 1 (by decide) hl rfl rfl hd kk
theorem cgN_Painter_pages (F : gw_F X l cc nL ret own gTs rm D gCl (gTys cI cB cC cZ) 46 ad A) {index : Nat} {host : String} (hl : Cond.fieldLinkNest own index "StageMachine$Painter" "pages" "LStageMachine$Pages;" host ∈ gTs) (hd : decode cc pc = .ok (.getfield index, 3)) (kk : gw_V X (gw_P D gCl 46 ad (cE ad cI cB cC)) A nL rv S (pc + 3) lv (.ref (ad 9) :: rest) ans) : gw_V X (gw_P D gCl 46 ad (cE ad cI cB cC)) A nL rv S pc lv (.ref (ad 6) :: rest) ans := gw_getN F cin_Painter 6 (by decide) cE_Painter rfl 1 (by decide) hl rfl rfl hd kk
theorem cg_Painter_rightXs (F : gw_F X l cc nL ret own gTs rm D gCl (gTys cI cB cC cZ) 46 ad A) {index : Nat} (hl : Cond.fieldLink own index "StageMachine$Painter" "rightXs" "[I" ∈ gTs) (hd : decode cc pc = .ok (.getfield index, 3)) (kk : gw_V X (gw_P D gCl 46 ad (cE ad cI cB cC)) A nL rv S (pc + 3) lv (.ref (ad 11) :: rest) ans) : gw_V X (gw_P D gCl 46 ad (cE ad cI cB cC)) A nL rv S pc lv (.ref (ad 6) :: rest) ans := gw_get F cin_Painter 6 (by decide) cE_Painter rfl 2 (by decide) hl rfl rfl hd kk
theorem cgN_Painter_rightXs (F : gw_F X l cc nL ret own gTs rm D gCl (gTys cI cB cC cZ) 46 ad A) {index : Nat} {host : String} (hl : Cond.fieldLinkNest own index "StageMachine$Painter" "rightXs" "[I" host ∈ gTs) (hd : decode cc pc = .ok (.getfield index, 3)) (kk : gw_V X (gw_P D gCl 46 ad (cE ad cI cB cC)) A nL rv S (pc + 3) lv (.ref (ad 11) :: rest) ans) : gw_V X (gw_P D gCl 46 ad (cE ad cI cB cC)) A nL rv S pc lv (.ref (ad 6) :: rest) ans := gw_getN F cin_Painter 6 (by decide) cE_Painter rfl 2 (by decide) hl rfl rfl hd kk
theorem cg_Painter_leftXs (F : gw_F X l cc nL ret own gTs rm D gCl (gTys cI cB cC cZ) 46 ad A) {index : Nat} (hl : Cond.fieldLink own index "StageMachine$Painter" "leftXs" "[I" ∈ gTs) (hd : decode cc pc = .ok (.getfield index, 3)) (kk : gw_V X (gw_P D gCl 46 ad (cE ad cI cB cC)) A nL rv S (pc + 3) lv (.ref (ad 12) :: rest) ans) : gw_V X (gw_P D gCl 46 ad (cE ad cI cB cC)) A nL rv S pc lv (.ref (ad 6) :: rest) ans := gw_get F cin_Painter 6 (by decide) cE_Painter rfl 3 (by decide) hl rfl rfl hd kk
theorem cgN_Painter_leftXs (F : gw_F X l cc nL ret own gTs rm D gCl (gTys cI cB cC cZ) 46 ad A) {index : Nat} {host : String} (hl : Cond.fieldLinkNest own index "StageMachine$Painter" "leftXs" "[I" host ∈ gTs) (hd : decode cc pc = .ok (.getfield index, 3)) (kk : gw_V X (gw_P D gCl 46 ad (cE ad cI cB cC)) A nL rv S (pc + 3) lv (.ref (ad 12) :: rest) ans) : gw_V X (gw_P D gCl 46 ad (cE ad cI cB cC)) A nL rv S pc lv (.ref (ad 6) :: rest) ans := gw_getN F cin_Painter 6 (by decide) cE_Painter rfl 3 (by decide) hl rfl rfl hd kk
theorem cg_Painter_pairYs (F : gw_F X l cc nL ret own gTs rm D gCl (gTys cI cB cC cZ) 46 ad A) {index : Nat} (hl : Cond.fieldLink own index "StageMachine$Painter" "pairYs" "[I" ∈ gTs) (hd : decode cc pc = .ok (.getfield index, 3)) (kk : gw_V X (gw_P D gCl 46 ad (cE ad cI cB cC)) A nL rv S (pc + 3) lv (.ref (ad 13) :: rest) ans) : gw_V X (gw_P D gCl 46 ad (cE ad cI cB cC)) A nL rv S pc lv (.ref (ad 6) :: rest) ans := gw_get F cin_Painter 6 (by decide) cE_Painter rfl 4 (by decide) hl rfl rfl hd kk
theorem cgN_Painter_pairYs (F : gw_F X l cc nL ret own gTs rm D gCl (gTys cI cB cC cZ) 46 ad A) {index : Nat} {host : String} (hl : Cond.fieldLinkNest own index "StageMachine$Painter" "pairYs" "[I" host ∈ gTs) (hd : decode cc pc = .ok (.getfield index, 3)) (kk : gw_V X (gw_P D gCl 46 ad (cE ad cI cB cC)) A nL rv S (pc + 3) lv (.ref (ad 13) :: rest) ans) : gw_V X (gw_P D gCl 46 ad (cE ad cI cB cC)) A nL rv S pc lv (.ref (ad 6) :: rest) ans := gw_getN F cin_Painter 6 (by decide) cE_Painter rfl 4 (by decide) hl rfl rfl hd kk
theorem cg_Painter_begunInDraw (F : gw_F X l cc nL ret own gTs rm D gCl (gTys cI cB cC cZ) 46 ad A) {index : Nat} (hl : Cond.fieldLink own index "StageMachine$Painter" "begunInDraw" "I" ∈ gTs) (hd : decode cc pc = .ok (.getfield index, 3)) (kk : gw_V X (gw_P D gCl 46 ad (cE ad cI cB cC)) A nL rv S (pc + 3) lv (.int (S 6 5) :: rest) ans) : gw_V X (gw_P D gCl 46 ad (cE ad cI cB cC)) A nL rv S pc lv (.ref (ad 6) :: rest) ans := gw_get F cin_Painter 6 (by decide) cE_Painter rfl 5 (by decide) hl rfl rfl hd kk
theorem cp_Painter_begunInDraw (F : gw_F X l cc nL ret own gTs rm D gCl (gTys cI cB cC cZ) 46 ad A) {index : Nat} {x : Int32} (hl : Cond.fieldLink own index "StageMachine$Painter" "begunInDraw" "I" ∈ gTs) (hd : decode cc pc = .ok (.putfield index, 3)) (kk : gw_V X (gw_P D gCl 46 ad (cE ad cI cB cC)) A nL rv (gw_u S 6 5 x) (pc + 3) lv rest ans) : gw_V X (gw_P D gCl 46 ad (cE ad cI cB cC)) A nL rv S pc lv (.int x :: .ref (ad 6) :: rest) ans := gw_put F cin_Painter cty_Painter ctk_Painter cnm_Painter 6 (by decide) cE_Painter rfl 5 (by decide) hl rfl rfl (ctk_Painter 5 (by decide)) rfl rfl (Nat.le_of_ble_eq_true rfl) ((cE_Painter).trans rfl) hd kk
theorem cgN_Painter_begunInDraw (F : gw_F X l cc nL ret own gTs rm D gCl (gTys cI cB cC cZ) 46 ad A) {index : Nat} {host : String} (hl : Cond.fieldLinkNest own index "StageMachine$Painter" "begunInDraw" "I" host ∈ gTs) (hd : decode cc pc = .ok (.getfield index, 3)) (kk : gw_V X (gw_P D gCl 46 ad (cE ad cI cB cC)) A nL rv S (pc + 3) lv (.int (S 6 5) :: rest) ans) : gw_V X (gw_P D gCl 46 ad (cE ad cI cB cC)) A nL rv S pc lv (.ref (ad 6) :: rest) ans := gw_getN F cin_Painter 6 (by decide) cE_Painter rfl 5 (by decide) hl rfl rfl hd kk
theorem cpN_Painter_begunInDraw (F : gw_F X l cc nL ret own gTs rm D gCl (gTys cI cB cC cZ) 46 ad A) {index : Nat} {host : String} {x : Int32} (hl : Cond.fieldLinkNest own index "StageMachine$Painter" "begunInDraw" "I" host ∈ gTs) (hd : decode cc pc = .ok (.putfield index, 3)) (kk : gw_V X (gw_P D gCl 46 ad (cE ad cI cB cC)) A nL rv (gw_u S 6 5 x) (pc + 3) lv rest ans) : gw_V X (gw_P D gCl 46 ad (cE ad cI cB cC)) A nL rv S pc lv (.int x :: .ref (ad 6) :: rest) ans := gw_putN F cin_Painter cty_Painter ctk_Painter cnm_Painter 6 (by decide) cE_Painter rfl 5 (by decide) hl rfl rfl (ctk_Painter 5 (by decide)) rfl rfl (Nat.le_of_ble_eq_true rfl) ((cE_Painter).trans rfl) hd kk
theorem cg_Painter_begunInFrame (F : gw_F X l cc nL ret own gTs rm D gCl (gTys cI cB cC cZ) 46 ad A) {index : Nat} (hl : Cond.fieldLink own index "StageMachine$Painter" "begunInFrame" "I" ∈ gTs) (hd : decode cc pc = .ok (.getfield index, 3)) (kk : gw_V X (gw_P D gCl 46 ad (cE ad cI cB cC)) A nL rv S (pc + 3) lv (.int (S 6 6) :: rest) ans) : gw_V X (gw_P D gCl 46 ad (cE ad cI cB cC)) A nL rv S pc lv (.ref (ad 6) :: rest) ans := gw_get F cin_Painter 6 (by decide) cE_Painter rfl 6 (by decide) hl rfl rfl hd kk
theorem cp_Painter_begunInFrame (F : gw_F X l cc nL ret own gTs rm D gCl (gTys cI cB cC cZ) 46 ad A) {index : Nat} {x : Int32} (hl : Cond.fieldLink own index "StageMachine$Painter" "begunInFrame" "I" ∈ gTs) (hd : decode cc pc = .ok (.putfield index, 3)) (kk : gw_V X (gw_P D gCl 46 ad (cE ad cI cB cC)) A nL rv (gw_u S 6 6 x) (pc + 3) lv rest ans) : gw_V X (gw_P D gCl 46 ad (cE ad cI cB cC)) A nL rv S pc lv (.int x :: .ref (ad 6) :: rest) ans := gw_put F cin_Painter cty_Painter ctk_Painter cnm_Painter 6 (by decide) cE_Painter rfl 6 (by decide) hl rfl rfl (ctk_Painter 6 (by decide)) rfl rfl (Nat.le_of_ble_eq_true rfl) ((cE_Painter).trans rfl) hd kk
theorem cgN_Painter_begunInFrame (F : gw_F X l cc nL ret own gTs rm D gCl (gTys cI cB cC cZ) 46 ad A) {index : Nat} {host : String} (hl : Cond.fieldLinkNest own index "StageMachine$Painter" "begunInFrame" "I" host ∈ gTs) (hd : decode cc pc = .ok (.getfield index, 3)) (kk : gw_V X (gw_P D gCl 46 ad (cE ad cI cB cC)) A nL rv S (pc + 3) lv (.int (S 6 6) :: rest) ans) : gw_V X (gw_P D gCl 46 ad (cE ad cI cB cC)) A nL rv S pc lv (.ref (ad 6) :: rest) ans := gw_getN F cin_Painter 6 (by decide) cE_Painter rfl 6 (by decide) hl rfl rfl hd kk
theorem cpN_Painter_begunInFrame (F : gw_F X l cc nL ret own gTs rm D gCl (gTys cI cB cC cZ) 46 ad A) {index : Nat} {host : String} {x : Int32} (hl : Cond.fieldLinkNest own index "StageMachine$Painter" "begunInFrame" "I" host ∈ gTs) (hd : decode cc pc = .ok (.putfield index, 3)) (kk : gw_V X (gw_P D gCl 46 ad (cE ad cI cB cC)) A nL rv (gw_u S 6 6 x) (pc + 3) lv rest ans) : gw_V X (gw_P D gCl 46 ad (cE ad cI cB cC)) A nL rv S pc lv (.int x :: .ref (ad 6) :: rest) ans := gw_putN F cin_Painter cty_Painter ctk_Painter cnm_Painter 6 (by decide) cE_Painter rfl 6 (by decide) hl rfl rfl (ctk_Painter 6 (by decide)) rfl rfl (Nat.le_of_ble_eq_true rfl) ((cE_Painter).trans rfl) hd kk
theorem cg_Painter_rowsInFrame (F : gw_F X l cc nL ret own gTs rm D gCl (gTys cI cB cC cZ) 46 ad A) {index : Nat} (hl : Cond.fieldLink own index "StageMachine$Painter" "rowsInFrame" "I" ∈ gTs) (hd : decode cc pc = .ok (.getfield index, 3)) (kk : gw_V X (gw_P D gCl 46 ad (cE ad cI cB cC)) A nL rv S (pc + 3) lv (.int (S 6 7) :: rest) ans) : gw_V X (gw_P D gCl 46 ad (cE ad cI cB cC)) A nL rv S pc lv (.ref (ad 6) :: rest) ans := gw_get F cin_Painter 6 (by decide) cE_Painter rfl 7 (by decide) hl rfl rfl hd kk
theorem cp_Painter_rowsInFrame (F : gw_F X l cc nL ret own gTs rm D gCl (gTys cI cB cC cZ) 46 ad A) {index : Nat} {x : Int32} (hl : Cond.fieldLink own index "StageMachine$Painter" "rowsInFrame" "I" ∈ gTs) (hd : decode cc pc = .ok (.putfield index, 3)) (kk : gw_V X (gw_P D gCl 46 ad (cE ad cI cB cC)) A nL rv (gw_u S 6 7 x) (pc + 3) lv rest ans) : gw_V X (gw_P D gCl 46 ad (cE ad cI cB cC)) A nL rv S pc lv (.int x :: .ref (ad 6) :: rest) ans := gw_put F cin_Painter cty_Painter ctk_Painter cnm_Painter 6 (by decide) cE_Painter rfl 7 (by decide) hl rfl rfl (ctk_Painter 7 (by decide)) rfl rfl (Nat.le_of_ble_eq_true rfl) ((cE_Painter).trans rfl) hd kk
theorem cgN_Painter_rowsInFrame (F : gw_F X l cc nL ret own gTs rm D gCl (gTys cI cB cC cZ) 46 ad A) {index : Nat} {host : String} (hl : Cond.fieldLinkNest own index "StageMachine$Painter" "rowsInFrame" "I" host ∈ gTs) (hd : decode cc pc = .ok (.getfield index, 3)) (kk : gw_V X (gw_P D gCl 46 ad (cE ad cI cB cC)) A nL rv S (pc + 3) lv (.int (S 6 7) :: rest) ans) : gw_V X (gw_P D gCl 46 ad (cE ad cI cB cC)) A nL rv S pc lv (.ref (ad 6) :: rest) ans := gw_getN F cin_Painter 6 (by decide) cE_Painter rfl 7 (by decide) hl rfl rfl hd kk
theorem cpN_Painter_rowsInFrame (F : gw_F X l cc nL ret own gTs rm D gCl (gTys cI cB cC cZ) 46 ad A) {index : Nat} {host : String} {x : Int32} (hl : Cond.fieldLinkNest own index "StageMachine$Painter" "rowsInFrame" "I" host ∈ gTs) (hd : decode cc pc = .ok (.putfield index, 3)) (kk : gw_V X (gw_P D gCl 46 ad (cE ad cI cB cC)) A nL rv (gw_u S 6 7 x) (pc + 3) lv rest ans) : gw_V X (gw_P D gCl 46 ad (cE ad cI cB cC)) A nL rv S pc lv (.int x :: .ref (ad 6) :: rest) ans := gw_putN F cin_Painter cty_Painter ctk_Painter cnm_Painter 6 (by decide) cE_Painter rfl 7 (by decide) hl rfl rfl (ctk_Painter 7 (by decide)) rfl rfl (Nat.le_of_ble_eq_true rfl) ((cE_Painter).trans rfl) hd kk
theorem cg_Pages_pixels (F : gw_F X l cc nL ret own gTs rm D gCl (gTys cI cB cC cZ) 46 ad A) {index : Nat} (hl : Cond.fieldLink own index "StageMachine$Pages" "pixels" "[B" ∈ gTs) (hd : decode cc pc = .ok (.getfield index, 3)) (kk : gw_V X (gw_P D gCl 46 ad (cE ad cI cB cC)) A nL rv S (pc + 3) lv (.ref (ad 10) :: rest) ans) : gw_V X (gw_P D gCl 46 ad (cE ad cI cB cC)) A nL rv S pc lv (.ref (ad 9) :: rest) ans := gw_get F cin_Pages 9 (by decide) cE_Pages rfl 0 (by decide) hl rfl rfl hd kk
theorem cgN_Pages_pixels (F : gw_F X l cc nL ret own gTs rm D gCl (gTys cI cB cC cZ) 46 ad A) {index : Nat} {host : String} (hl : Cond.fieldLinkNest own index "StageMachine$Pages" "pixels" "[B" host ∈ gTs) (hd : decode cc pc = .ok (.getfield index, 3)) (kk : gw_V X (gw_P D gCl 46 ad (cE ad cI cB cC)) A nL rv S (pc + 3) lv (.ref (ad 10) :: rest) ans) : gw_V X (gw_P D gCl 46 ad (cE ad cI cB cC)) A nL rv S pc lv (.ref (ad 9) :: rest) ans := gw_getN F cin_Pages 9 (by decide) cE_Pages rfl 0 (by decide) hl rfl rfl hd kk
theorem cg_Pages_working (F : gw_F X l cc nL ret own gTs rm D gCl (gTys cI cB cC cZ) 46 ad A) {index : Nat} (hl : Cond.fieldLink own index "StageMachine$Pages" "working" "I" ∈ gTs) (hd : decode cc pc = .ok (.getfield index, 3)) (kk : gw_V X (gw_P D gCl 46 ad (cE ad cI cB cC)) A nL rv S (pc + 3) lv (.int (S 9 1) :: rest) ans) : gw_V X (gw_P D gCl 46 ad (cE ad cI cB cC)) A nL rv S pc lv (.ref (ad 9) :: rest) ans := gw_get F cin_Pages 9 (by decide) cE_Pages rfl 1 (by decide) hl rfl rfl hd kk
theorem cp_Pages_working (F : gw_F X l cc nL ret own gTs rm D gCl (gTys cI cB cC cZ) 46 ad A) {index : Nat} {x : Int32} (hl : Cond.fieldLink own index "StageMachine$Pages" "working" "I" ∈ gTs) (hd : decode cc pc = .ok (.putfield index, 3)) (kk : gw_V X (gw_P D gCl 46 ad (cE ad cI cB cC)) A nL rv (gw_u S 9 1 x) (pc + 3) lv rest ans) : gw_V X (gw_P D gCl 46 ad (cE ad cI cB cC)) A nL rv S pc lv (.int x :: .ref (ad 9) :: rest) ans := gw_put F cin_Pages cty_Pages ctk_Pages cnm_Pages 9 (by decide) cE_Pages rfl 1 (by decide) hl rfl rfl (ctk_Pages 1 (by decide)) rfl rfl (Nat.le_of_ble_eq_true rfl) ((cE_Pages).trans rfl) hd kk
theorem cgN_Pages_working (F : gw_F X l cc nL ret own gTs rm D gCl (gTys cI cB cC cZ) 46 ad A) {index : Nat} {host : String} (hl : Cond.fieldLinkNest own index "StageMachine$Pages" "working" "I" host ∈ gTs) (hd : decode cc pc = .ok (.getfield index, 3)) (kk : gw_V X (gw_P D gCl 46 ad (cE ad cI cB cC)) A nL rv S (pc + 3) lv (.int (S 9 1) :: rest) ans) : gw_V X (gw_P D gCl 46 ad (cE ad cI cB cC)) A nL rv S pc lv (.ref (ad 9) :: rest) ans := gw_getN F cin_Pages 9 (by decide) cE_Pages rfl 1 (by decide) hl rfl rfl hd kk
theorem cpN_Pages_working (F : gw_F X l cc nL ret own gTs rm D gCl (gTys cI cB cC cZ) 46 ad A) {index : Nat} {host : String} {x : Int32} (hl : Cond.fieldLinkNest own index "StageMachine$Pages" "working" "I" host ∈ gTs) (hd : decode cc pc = .ok (.putfield index, 3)) (kk : gw_V X (gw_P D gCl 46 ad (cE ad cI cB cC)) A nL rv (gw_u S 9 1 x) (pc + 3) lv rest ans) : gw_V X (gw_P D gCl 46 ad (cE ad cI cB cC)) A nL rv S pc lv (.int x :: .ref (ad 9) :: rest) ans := gw_putN F cin_Pages cty_Pages ctk_Pages cnm_Pages 9 (by decide) cE_Pages rfl 1 (by decide) hl rfl rfl (ctk_Pages 1 (by decide)) rfl rfl (Nat.le_of_ble_eq_true rfl) ((cE_Pages).trans rfl) hd kk
theorem cg_Pages_shown (F : gw_F X l cc nL ret own gTs rm D gCl (gTys cI cB cC cZ) 46 ad A) {index : Nat} (hl : Cond.fieldLink own index "StageMachine$Pages" "shown" "I" ∈ gTs) (hd : decode cc pc = .ok (.getfield index, 3)) (kk : gw_V X (gw_P D gCl 46 ad (cE ad cI cB cC)) A nL rv S (pc + 3) lv (.int (S 9 2) :: rest) ans) : gw_V X (gw_P D gCl 46 ad (cE ad cI cB cC)) A nL rv S pc lv (.ref (ad 9) :: rest) ans := gw_get F cin_Pages 9 (by decide) cE_Pages rfl 2 (by decide) hl rfl rfl hd kk
theorem cp_Pages_shown (F : gw_F X l cc nL ret own gTs rm D gCl (gTys cI cB cC cZ) 46 ad A) {index : Nat} {x : Int32} (hl : Cond.fieldLink own index "StageMachine$Pages" "shown" "I" ∈ gTs) (hd : decode cc pc = .ok (.putfield index, 3)) (kk : gw_V X (gw_P D gCl 46 ad (cE ad cI cB cC)) A nL rv (gw_u S 9 2 x) (pc + 3) lv rest ans) : gw_V X (gw_P D gCl 46 ad (cE ad cI cB cC)) A nL rv S pc lv (.int x :: .ref (ad 9) :: rest) ans := gw_put F cin_Pages cty_Pages ctk_Pages cnm_Pages 9 (by decide) cE_Pages rfl 2 (by decide) hl rfl rfl (ctk_Pages 2 (by decide)) rfl rfl (Nat.le_of_ble_eq_true rfl) ((cE_Pages).trans rfl) hd kk
theorem cgN_Pages_shown (F : gw_F X l cc nL ret own gTs rm D gCl (gTys cI cB cC cZ) 46 ad A) {index : Nat} {host : String} (hl : Cond.fieldLinkNest own index "StageMachine$Pages" "shown" "I" host ∈ gTs) (hd : decode cc pc = .ok (.getfield index, 3)) (kk : gw_V X (gw_P D gCl 46 ad (cE ad cI cB cC)) A nL rv S (pc + 3) lv (.int (S 9 2) :: rest) ans) : gw_V X (gw_P D gCl 46 ad (cE ad cI cB cC)) A nL rv S pc lv (.ref (ad 9) :: rest) ans := gw_getN F cin_Pages 9 (by decide) cE_Pages rfl 2 (by decide) hl rfl rfl hd kk
theorem cpN_Pages_shown (F : gw_F X l cc nL ret own gTs rm D gCl (gTys cI cB cC cZ) 46 ad A) {index : Nat} {host : String} {x : Int32} (hl : Cond.fieldLinkNest own index "StageMachine$Pages" "shown" "I" host ∈ gTs) (hd : decode cc pc = .ok (.putfield index, 3)) (kk : gw_V X (gw_P D gCl 46 ad (cE ad cI cB cC)) A nL rv (gw_u S 9 2 x) (pc + 3) lv rest ans) : gw_V X (gw_P D gCl 46 ad (cE ad cI cB cC)) A nL rv S pc lv (.int x :: .ref (ad 9) :: rest) ans := gw_putN F cin_Pages cty_Pages ctk_Pages cnm_Pages 9 (by decide) cE_Pages rfl 2 (by decide) hl rfl rfl (ctk_Pages 2 (by decide)) rfl rfl (Nat.le_of_ble_eq_true rfl) ((cE_Pages).trans rfl) hd kk
theorem cl_Pix (F : gw_F X l cc nL ret own gTs rm D gCl (gTys cI cB cC cZ) 46 ad A) {j : Int32} (hin : vp_in j 10240) (hd : decode cc pc = .ok (.baload, 1)) (kk : gw_V X (gw_P D gCl 46 ad (cE ad cI cB cC)) A nL rv S (pc + 1) lv (.int (S 10 j.toNatClampNeg) :: rest) ans) : gw_V X (gw_P D gCl 46 ad (cE ad cI cB cC)) A nL rv S pc lv (.int j :: .ref (ad 10) :: rest) ans := gw_bald F 10 1 (by decide) cE_Pix rfl hin hd kk
theorem cs_Pix (F : gw_F X l cc nL ret own gTs rm D gCl (gTys cI cB cC cZ) 46 ad A) {j x : Int32} (hin : vp_in j 10240) (hd : decode cc pc = .ok (.bastore, 1)) (kk : gw_V X (gw_P D gCl 46 ad (cE ad cI cB cC)) A nL rv (gw_u S 10 j.toNatClampNeg (vp_nar .byte x)) (pc + 1) lv rest ans) : gw_V X (gw_P D gCl 46 ad (cE ad cI cB cC)) A nL rv S pc lv (.int x :: .int j :: .ref (ad 10) :: rest) ans := gw_bast F 10 1 (by decide) cE_Pix rfl hin cE_Pix hd kk
theorem cn_Pix (F : gw_F X l cc nL ret own gTs rm D gCl (gTys cI cB cC cZ) 46 ad A) (hd : decode cc pc = .ok (.arraylength, 1)) (kk : gw_V X (gw_P D gCl 46 ad (cE ad cI cB cC)) A nL rv S (pc + 1) lv (.int (10240 : Int32) :: rest) ans) : gw_V X (gw_P D gCl 46 ad (cE ad cI cB cC)) A nL rv S pc lv (.ref (ad 10) :: rest) ans := gw_alen F 10 1 (by decide) cE_Pix rfl rfl hd kk
theorem cl_RXs (F : gw_F X l cc nL ret own gTs rm D gCl (gTys cI cB cC cZ) 46 ad A) {j : Int32} (hin : vp_in j 16) (hd : decode cc pc = .ok (.iaload, 1)) (kk : gw_V X (gw_P D gCl 46 ad (cE ad cI cB cC)) A nL rv S (pc + 1) lv (.int (S 11 j.toNatClampNeg) :: rest) ans) : gw_V X (gw_P D gCl 46 ad (cE ad cI cB cC)) A nL rv S pc lv (.int j :: .ref (ad 11) :: rest) ans := gw_iald F 11 0 (by decide) cE_RXs rfl hin hd kk
theorem cs_RXs (F : gw_F X l cc nL ret own gTs rm D gCl (gTys cI cB cC cZ) 46 ad A) {j x : Int32} (hin : vp_in j 16) (hd : decode cc pc = .ok (.iastore, 1)) (kk : gw_V X (gw_P D gCl 46 ad (cE ad cI cB cC)) A nL rv (gw_u S 11 j.toNatClampNeg x) (pc + 1) lv rest ans) : gw_V X (gw_P D gCl 46 ad (cE ad cI cB cC)) A nL rv S pc lv (.int x :: .int j :: .ref (ad 11) :: rest) ans := gw_iast F 11 0 (by decide) cE_RXs rfl hin cE_RXs hd kk
theorem cn_RXs (F : gw_F X l cc nL ret own gTs rm D gCl (gTys cI cB cC cZ) 46 ad A) (hd : decode cc pc = .ok (.arraylength, 1)) (kk : gw_V X (gw_P D gCl 46 ad (cE ad cI cB cC)) A nL rv S (pc + 1) lv (.int (16 : Int32) :: rest) ans) : gw_V X (gw_P D gCl 46 ad (cE ad cI cB cC)) A nL rv S pc lv (.ref (ad 11) :: rest) ans := gw_alen F 11 0 (by decide) cE_RXs rfl rfl hd kk
theorem cl_LXs (F : gw_F X l cc nL ret own gTs rm D gCl (gTys cI cB cC cZ) 46 ad A) {j : Int32} (hin : vp_in j 16) (hd : decode cc pc = .ok (.iaload, 1)) (kk : gw_V X (gw_P D gCl 46 ad (cE ad cI cB cC)) A nL rv S (pc + 1) lv (.int (S 12 j.toNatClampNeg) :: rest) ans) : gw_V X (gw_P D gCl 46 ad (cE ad cI cB cC)) A nL rv S pc lv (.int j :: .ref (ad 12) :: rest) ans := gw_iald F 12 0 (by decide) cE_LXs rfl hin hd kk
theorem cs_LXs (F : gw_F X l cc nL ret own gTs rm D gCl (gTys cI cB cC cZ) 46 ad A) {j x : Int32} (hin : vp_in j 16) (hd : decode cc pc = .ok (.iastore, 1)) (kk : gw_V X (gw_P D gCl 46 ad (cE ad cI cB cC)) A nL rv (gw_u S 12 j.toNatClampNeg x) (pc + 1) lv rest ans) : gw_V X (gw_P D gCl 46 ad (cE ad cI cB cC)) A nL rv S pc lv (.int x :: .int j :: .ref (ad 12) :: rest) ans := gw_iast F 12 0 (by decide) cE_LXs rfl hin cE_LXs hd kk
theorem cn_LXs (F : gw_F X l cc nL ret own gTs rm D gCl (gTys cI cB cC cZ) 46 ad A) (hd : decode cc pc = .ok (.arraylength, 1)) (kk : gw_V X (gw_P D gCl 46 ad (cE ad cI cB cC)) A nL rv S (pc + 1) lv (.int (16 : Int32) :: rest) ans) : gw_V X (gw_P D gCl 46 ad (cE ad cI cB cC)) A nL rv S pc lv (.ref (ad 12) :: rest) ans := gw_alen F 12 0 (by decide) cE_LXs rfl rfl hd kk
theorem cl_PYs (F : gw_F X l cc nL ret own gTs rm D gCl (gTys cI cB cC cZ) 46 ad A) {j : Int32} (hin : vp_in j 16) (hd : decode cc pc = .ok (.iaload, 1)) (kk : gw_V X (gw_P D gCl 46 ad (cE ad cI cB cC)) A nL rv S (pc + 1) lv (.int (S 13 j.toNatClampNeg) :: rest) ans) : gw_V X (gw_P D gCl 46 ad (cE ad cI cB cC)) A nL rv S pc lv (.int j :: .ref (ad 13) :: rest) ans := gw_iald F 13 0 (by decide) cE_PYs rfl hin hd kk
theorem cs_PYs (F : gw_F X l cc nL ret own gTs rm D gCl (gTys cI cB cC cZ) 46 ad A) {j x : Int32} (hin : vp_in j 16) (hd : decode cc pc = .ok (.iastore, 1)) (kk : gw_V X (gw_P D gCl 46 ad (cE ad cI cB cC)) A nL rv (gw_u S 13 j.toNatClampNeg x) (pc + 1) lv rest ans) : gw_V X (gw_P D gCl 46 ad (cE ad cI cB cC)) A nL rv S pc lv (.int x :: .int j :: .ref (ad 13) :: rest) ans := gw_iast F 13 0 (by decide) cE_PYs rfl hin cE_PYs hd kk
theorem cn_PYs (F : gw_F X l cc nL ret own gTs rm D gCl (gTys cI cB cC cZ) 46 ad A) (hd : decode cc pc = .ok (.arraylength, 1)) (kk : gw_V X (gw_P D gCl 46 ad (cE ad cI cB cC)) A nL rv S (pc + 1) lv (.int (16 : Int32) :: rest) ans) : gw_V X (gw_P D gCl 46 ad (cE ad cI cB cC)) A nL rv S pc lv (.ref (ad 13) :: rest) ans := gw_alen F 13 0 (by decide) cE_PYs rfl rfl hd kk
theorem cg_Channel_pile (F : gw_F X l cc nL ret own gTs rm D gCl (gTys cI cB cC cZ) 46 ad A) {j : Nat} (h : j < 16) {index : Nat} (hl : Cond.fieldLink own index "StageMachine$Channel" "pile" "[I" ∈ gTs) (hd : decode cc pc = .ok (.getfield index, 3)) (kk : gw_V X (gw_P D gCl 46 ad (cE ad cI cB cC)) A nL rv S (pc + 3) lv (.ref (ad (j + 30)) :: rest) ans) : gw_V X (gw_P D gCl 46 ad (cE ad cI cB cC)) A nL rv S pc lv (.ref (ad (j + 14)) :: rest) ans := gw_get F cin_Channel (j + 14) (chi_Channel h) (cE_Channel h) rfl 0 (by decide) hl rfl rfl hd kk
theorem cgN_Channel_pile (F : gw_F X l cc nL ret own gTs rm D gCl (gTys cI cB cC cZ) 46 ad A) {j : Nat} (h : j < 16) {index : Nat} {host : String} (hl : Cond.fieldLinkNest own index "StageMachine$Channel" "pile" "[I" host ∈ gTs) (hd : decode cc pc = .ok (.getfield index, 3)) (kk : gw_V X (gw_P D gCl 46 ad (cE ad cI cB cC)) A nL rv S (pc + 3) lv (.ref (ad (j + 30)) :: rest) ans) : gw_V X (gw_P D gCl 46 ad (cE ad cI cB cC)) A nL rv S pc lv (.ref (ad (j + 14)) :: rest) ans := gw_getN F cin_Channel (j + 14) (chi_Channel h) (cE_Channel h) rfl 0 (by decide) hl rfl rfl hd kk
theorem cg_Channel_returns (F : gw_F X l cc nL ret own gTs rm D gCl (gTys cI cB cC cZ) 46 ad A) {j : Nat} (h : j < 16) {index : Nat} (hl : Cond.fieldLink own index "StageMachine$Channel" "returns" "I" ∈ gTs) (hd : decode cc pc = .ok (.getfield index, 3)) (kk : gw_V X (gw_P D gCl 46 ad (cE ad cI cB cC)) A nL rv S (pc + 3) lv (.int (S (j + 14) 1) :: rest) ans) : gw_V X (gw_P D gCl 46 ad (cE ad cI cB cC)) A nL rv S pc lv (.ref (ad (j + 14)) :: rest) ans := gw_get F cin_Channel (j + 14) (chi_Channel h) (cE_Channel h) rfl 1 (by decide) hl rfl rfl hd kk
theorem cp_Channel_returns (F : gw_F X l cc nL ret own gTs rm D gCl (gTys cI cB cC cZ) 46 ad A) {j : Nat} (h : j < 16) {index : Nat} {x : Int32} (hl : Cond.fieldLink own index "StageMachine$Channel" "returns" "I" ∈ gTs) (hd : decode cc pc = .ok (.putfield index, 3)) (kk : gw_V X (gw_P D gCl 46 ad (cE ad cI cB cC)) A nL rv (gw_u S (j + 14) 1 x) (pc + 3) lv rest ans) : gw_V X (gw_P D gCl 46 ad (cE ad cI cB cC)) A nL rv S pc lv (.int x :: .ref (ad (j + 14)) :: rest) ans := gw_put F cin_Channel cty_Channel ctk_Channel cnm_Channel (j + 14) (chi_Channel h) (cE_Channel h) rfl 1 (by decide) hl rfl rfl (ctk_Channel 1 (by decide)) rfl rfl (Nat.le_of_ble_eq_true rfl) (((cE_Channel h)).trans rfl) hd kk
theorem cgN_Channel_returns (F : gw_F X l cc nL ret own gTs rm D gCl (gTys cI cB cC cZ) 46 ad A) {j : Nat} (h : j < 16) {index : Nat} {host : String} (hl : Cond.fieldLinkNest own index "StageMachine$Channel" "returns" "I" host ∈ gTs) (hd : decode cc pc = .ok (.getfield index, 3)) (kk : gw_V X (gw_P D gCl 46 ad (cE ad cI cB cC)) A nL rv S (pc + 3) lv (.int (S (j + 14) 1) :: rest) ans) : gw_V X (gw_P D gCl 46 ad (cE ad cI cB cC)) A nL rv S pc lv (.ref (ad (j + 14)) :: rest) ans := gw_getN F cin_Channel (j + 14) (chi_Channel h) (cE_Channel h) rfl 1 (by decide) hl rfl rfl hd kk
theorem cpN_Channel_returns (F : gw_F X l cc nL ret own gTs rm D gCl (gTys cI cB cC cZ) 46 ad A) {j : Nat} (h : j < 16) {index : Nat} {host : String} {x : Int32} (hl : Cond.fieldLinkNest own index "StageMachine$Channel" "returns" "I" host ∈ gTs) (hd : decode cc pc = .ok (.putfield index, 3)) (kk : gw_V X (gw_P D gCl 46 ad (cE ad cI cB cC)) A nL rv (gw_u S (j + 14) 1 x) (pc + 3) lv rest ans) : gw_V X (gw_P D gCl 46 ad (cE ad cI cB cC)) A nL rv S pc lv (.int x :: .ref (ad (j + 14)) :: rest) ans := gw_putN F cin_Channel cty_Channel ctk_Channel cnm_Channel (j + 14) (chi_Channel h) (cE_Channel h) rfl 1 (by decide) hl rfl rfl (ctk_Channel 1 (by decide)) rfl rfl (Nat.le_of_ble_eq_true rfl) (((cE_Channel h)).trans rfl) hd kk
theorem cg_Channel_address (F : gw_F X l cc nL ret own gTs rm D gCl (gTys cI cB cC cZ) 46 ad A) {j : Nat} (h : j < 16) {index : Nat} (hl : Cond.fieldLink own index "StageMachine$Channel" "address" "I" ∈ gTs) (hd : decode cc pc = .ok (.getfield index, 3)) (kk : gw_V X (gw_P D gCl 46 ad (cE ad cI cB cC)) A nL rv S (pc + 3) lv (.int (S (j + 14) 2) :: rest) ans) : gw_V X (gw_P D gCl 46 ad (cE ad cI cB cC)) A nL rv S pc lv (.ref (ad (j + 14)) :: rest) ans := gw_get F cin_Channel (j + 14) (chi_Channel h) (cE_Channel h) rfl 2 (by decide) hl rfl rfl hd kk
theorem cp_Channel_address (F : gw_F X l cc nL ret own gTs rm D gCl (gTys cI cB cC cZ) 46 ad A) {j : Nat} (h : j < 16) {index : Nat} {x : Int32} (hl : Cond.fieldLink own index "StageMachine$Channel" "address" "I" ∈ gTs) (hd : decode cc pc = .ok (.putfield index, 3)) (kk : gw_V X (gw_P D gCl 46 ad (cE ad cI cB cC)) A nL rv (gw_u S (j + 14) 2 x) (pc + 3) lv rest ans) : gw_V X (gw_P D gCl 46 ad (cE ad cI cB cC)) A nL rv S pc lv (.int x :: .ref (ad (j + 14)) :: rest) ans := gw_put F cin_Channel cty_Channel ctk_Channel cnm_Channel (j + 14) (chi_Channel h) (cE_Channel h) rfl 2 (by decide) hl rfl rfl (ctk_Channel 2 (by decide)) rfl rfl (Nat.le_of_ble_eq_true rfl) (((cE_Channel h)).trans rfl) hd kk
theorem cgN_Channel_address (F : gw_F X l cc nL ret own gTs rm D gCl (gTys cI cB cC cZ) 46 ad A) {j : Nat} (h : j < 16) {index : Nat} {host : String} (hl : Cond.fieldLinkNest own index "StageMachine$Channel" "address" "I" host ∈ gTs) (hd : decode cc pc = .ok (.getfield index, 3)) (kk : gw_V X (gw_P D gCl 46 ad (cE ad cI cB cC)) A nL rv S (pc + 3) lv (.int (S (j + 14) 2) :: rest) ans) : gw_V X (gw_P D gCl 46 ad (cE ad cI cB cC)) A nL rv S pc lv (.ref (ad (j + 14)) :: rest) ans := gw_getN F cin_Channel (j + 14) (chi_Channel h) (cE_Channel h) rfl 2 (by decide) hl rfl rfl hd kk
theorem cpN_Channel_address (F : gw_F X l cc nL ret own gTs rm D gCl (gTys cI cB cC cZ) 46 ad A) {j : Nat} (h : j < 16) {index : Nat} {host : String} {x : Int32} (hl : Cond.fieldLinkNest own index "StageMachine$Channel" "address" "I" host ∈ gTs) (hd : decode cc pc = .ok (.putfield index, 3)) (kk : gw_V X (gw_P D gCl 46 ad (cE ad cI cB cC)) A nL rv (gw_u S (j + 14) 2 x) (pc + 3) lv rest ans) : gw_V X (gw_P D gCl 46 ad (cE ad cI cB cC)) A nL rv S pc lv (.int x :: .ref (ad (j + 14)) :: rest) ans := gw_putN F cin_Channel cty_Channel ctk_Channel cnm_Channel (j + 14) (chi_Channel h) (cE_Channel h) rfl 2 (by decide) hl rfl rfl (ctk_Channel 2 (by decide)) rfl rfl (Nat.le_of_ble_eq_true rfl) (((cE_Channel h)).trans rfl) hd kk
theorem cg_Channel_paused (F : gw_F X l cc nL ret own gTs rm D gCl (gTys cI cB cC cZ) 46 ad A) {j : Nat} (h : j < 16) {index : Nat} (hl : Cond.fieldLink own index "StageMachine$Channel" "paused" "Z" ∈ gTs) (hd : decode cc pc = .ok (.getfield index, 3)) (kk : gw_V X (gw_P D gCl 46 ad (cE ad cI cB cC)) A nL rv S (pc + 3) lv (.int (S (j + 14) 3) :: rest) ans) : gw_V X (gw_P D gCl 46 ad (cE ad cI cB cC)) A nL rv S pc lv (.ref (ad (j + 14)) :: rest) ans := gw_get F cin_Channel (j + 14) (chi_Channel h) (cE_Channel h) rfl 3 (by decide) hl rfl rfl hd kk
theorem cp_Channel_paused (F : gw_F X l cc nL ret own gTs rm D gCl (gTys cI cB cC cZ) 46 ad A) {j : Nat} (h : j < 16) {index : Nat} {x : Int32} (hl : Cond.fieldLink own index "StageMachine$Channel" "paused" "Z" ∈ gTs) (hd : decode cc pc = .ok (.putfield index, 3)) (hn : narrow .boolean (.int x) = .int x) (hf : fits .boolean (.int x) = true) (kk : gw_V X (gw_P D gCl 46 ad (cE ad cI cB cC)) A nL rv (gw_u S (j + 14) 3 x) (pc + 3) lv rest ans) : gw_V X (gw_P D gCl 46 ad (cE ad cI cB cC)) A nL rv S pc lv (.int x :: .ref (ad (j + 14)) :: rest) ans := gw_put F cin_Channel cty_Channel ctk_Channel cnm_Channel (j + 14) (chi_Channel h) (cE_Channel h) rfl 3 (by decide) hl rfl rfl (ctk_Channel 3 (by decide)) hn hf (Nat.le_of_ble_eq_true rfl) (((cE_Channel h)).trans rfl) hd kk
theorem cgN_Channel_paused (F : gw_F X l cc nL ret own gTs rm D gCl (gTys cI cB cC cZ) 46 ad A) {j : Nat} (h : j < 16) {index : Nat} {host : String} (hl : Cond.fieldLinkNest own index "StageMachine$Channel" "paused" "Z" host ∈ gTs) (hd : decode cc pc = .ok (.getfield index, 3)) (kk : gw_V X (gw_P D gCl 46 ad (cE ad cI cB cC)) A nL rv S (pc + 3) lv (.int (S (j + 14) 3) :: rest) ans) : gw_V X (gw_P D gCl 46 ad (cE ad cI cB cC)) A nL rv S pc lv (.ref (ad (j + 14)) :: rest) ans := gw_getN F cin_Channel (j + 14) (chi_Channel h) (cE_Channel h) rfl 3 (by decide) hl rfl rfl hd kk
theorem cpN_Channel_paused (F : gw_F X l cc nL ret own gTs rm D gCl (gTys cI cB cC cZ) 46 ad A) {j : Nat} (h : j < 16) {index : Nat} {host : String} {x : Int32} (hl : Cond.fieldLinkNest own index "StageMachine$Channel" "paused" "Z" host ∈ gTs) (hd : decode cc pc = .ok (.putfield index, 3)) (hn : narrow .boolean (.int x) = .int x) (hf : fits .boolean (.int x) = true) (kk : gw_V X (gw_P D gCl 46 ad (cE ad cI cB cC)) A nL rv (gw_u S (j + 14) 3 x) (pc + 3) lv rest ans) : gw_V X (gw_P D gCl 46 ad (cE ad cI cB cC)) A nL rv S pc lv (.int x :: .ref (ad (j + 14)) :: rest) ans := gw_putN F cin_Channel cty_Channel ctk_Channel cnm_Channel (j + 14) (chi_Channel h) (cE_Channel h) rfl 3 (by decide) hl rfl rfl (ctk_Channel 3 (by decide)) hn hf (Nat.le_of_ble_eq_true rfl) (((cE_Channel h)).trans rfl) hd kk
theorem cg_Channel_latestFault (F : gw_F X l cc nL ret own gTs rm D gCl (gTys cI cB cC cZ) 46 ad A) {j : Nat} (h : j < 16) {index : Nat} (hl : Cond.fieldLink own index "StageMachine$Channel" "latestFault" "I" ∈ gTs) (hd : decode cc pc = .ok (.getfield index, 3)) (kk : gw_V X (gw_P D gCl 46 ad (cE ad cI cB cC)) A nL rv S (pc + 3) lv (.int (S (j + 14) 4) :: rest) ans) : gw_V X (gw_P D gCl 46 ad (cE ad cI cB cC)) A nL rv S pc lv (.ref (ad (j + 14)) :: rest) ans := gw_get F cin_Channel (j + 14) (chi_Channel h) (cE_Channel h) rfl 4 (by decide) hl rfl rfl hd kk
theorem cp_Channel_latestFault (F : gw_F X l cc nL ret own gTs rm D gCl (gTys cI cB cC cZ) 46 ad A) {j : Nat} (h : j < 16) {index : Nat} {x : Int32} (hl : Cond.fieldLink own index "StageMachine$Channel" "latestFault" "I" ∈ gTs) (hd : decode cc pc = .ok (.putfield index, 3)) (kk : gw_V X (gw_P D gCl 46 ad (cE ad cI cB cC)) A nL rv (gw_u S (j + 14) 4 x) (pc + 3) lv rest ans) : gw_V X (gw_P D gCl 46 ad (cE ad cI cB cC)) A nL rv S pc lv (.int x :: .ref (ad (j + 14)) :: rest) ans := gw_put F cin_Channel cty_Channel ctk_Channel cnm_Channel (j + 14) (chi_Channel h) (cE_Channel h) rfl 4 (by decide) hl rfl rfl (ctk_Channel 4 (by decide)) rfl rfl (Nat.le_of_ble_eq_true rfl) (((cE_Channel h)).trans rfl) hd kk
theorem cgN_Channel_latestFault (F : gw_F X l cc nL ret own gTs rm D gCl (gTys cI cB cC cZ) 46 ad A) {j : Nat} (h : j < 16) {index : Nat} {host : String} (hl : Cond.fieldLinkNest own index "StageMachine$Channel" "latestFault" "I" host ∈ gTs) (hd : decode cc pc = .ok (.getfield index, 3)) (kk : gw_V X (gw_P D gCl 46 ad (cE ad cI cB cC)) A nL rv S (pc + 3) lv (.int (S (j + 14) 4) :: rest) ans) : gw_V X (gw_P D gCl 46 ad (cE ad cI cB cC)) A nL rv S pc lv (.ref (ad (j + 14)) :: rest) ans := gw_getN F cin_Channel (j + 14) (chi_Channel h) (cE_Channel h) rfl 4 (by decide) hl rfl rfl hd kk
theorem cpN_Channel_latestFault (F : gw_F X l cc nL ret own gTs rm D gCl (gTys cI cB cC cZ) 46 ad A) {j : Nat} (h : j < 16) {index : Nat} {host : String} {x : Int32} (hl : Cond.fieldLinkNest own index "StageMachine$Channel" "latestFault" "I" host ∈ gTs) (hd : decode cc pc = .ok (.putfield index, 3)) (kk : gw_V X (gw_P D gCl 46 ad (cE ad cI cB cC)) A nL rv (gw_u S (j + 14) 4 x) (pc + 3) lv rest ans) : gw_V X (gw_P D gCl 46 ad (cE ad cI cB cC)) A nL rv S pc lv (.int x :: .ref (ad (j + 14)) :: rest) ans := gw_putN F cin_Channel cty_Channel ctk_Channel cnm_Channel (j + 14) (chi_Channel h) (cE_Channel h) rfl 4 (by decide) hl rfl rfl (ctk_Channel 4 (by decide)) rfl rfl (Nat.le_of_ble_eq_true rfl) (((cE_Channel h)).trans rfl) hd kk
theorem cg_Channel_askedAddress (F : gw_F X l cc nL ret own gTs rm D gCl (gTys cI cB cC cZ) 46 ad A) {j : Nat} (h : j < 16) {index : Nat} (hl : Cond.fieldLink own index "StageMachine$Channel" "askedAddress" "I" ∈ gTs) (hd : decode cc pc = .ok (.getfield index, 3)) (kk : gw_V X (gw_P D gCl 46 ad (cE ad cI cB cC)) A nL rv S (pc + 3) lv (.int (S (j + 14) 5) :: rest) ans) : gw_V X (gw_P D gCl 46 ad (cE ad cI cB cC)) A nL rv S pc lv (.ref (ad (j + 14)) :: rest) ans := gw_get F cin_Channel (j + 14) (chi_Channel h) (cE_Channel h) rfl 5 (by decide) hl rfl rfl hd kk
theorem cp_Channel_askedAddress (F : gw_F X l cc nL ret own gTs rm D gCl (gTys cI cB cC cZ) 46 ad A) {j : Nat} (h : j < 16) {index : Nat} {x : Int32} (hl : Cond.fieldLink own index "StageMachine$Channel" "askedAddress" "I" ∈ gTs) (hd : decode cc pc = .ok (.putfield index, 3)) (kk : gw_V X (gw_P D gCl 46 ad (cE ad cI cB cC)) A nL rv (gw_u S (j + 14) 5 x) (pc + 3) lv rest ans) : gw_V X (gw_P D gCl 46 ad (cE ad cI cB cC)) A nL rv S pc lv (.int x :: .ref (ad (j + 14)) :: rest) ans := gw_put F cin_Channel cty_Channel ctk_Channel cnm_Channel (j + 14) (chi_Channel h) (cE_Channel h) rfl 5 (by decide) hl rfl rfl (ctk_Channel 5 (by decide)) rfl rfl (Nat.le_of_ble_eq_true rfl) (((cE_Channel h)).trans rfl) hd kk
theorem cgN_Channel_askedAddress (F : gw_F X l cc nL ret own gTs rm D gCl (gTys cI cB cC cZ) 46 ad A) {j : Nat} (h : j < 16) {index : Nat} {host : String} (hl : Cond.fieldLinkNest own index "StageMachine$Channel" "askedAddress" "I" host ∈ gTs) (hd : decode cc pc = .ok (.getfield index, 3)) (kk : gw_V X (gw_P D gCl 46 ad (cE ad cI cB cC)) A nL rv S (pc + 3) lv (.int (S (j + 14) 5) :: rest) ans) : gw_V X (gw_P D gCl 46 ad (cE ad cI cB cC)) A nL rv S pc lv (.ref (ad (j + 14)) :: rest) ans := gw_getN F cin_Channel (j + 14) (chi_Channel h) (cE_Channel h) rfl 5 (by decide) hl rfl rfl hd kk
theorem cpN_Channel_askedAddress (F : gw_F X l cc nL ret own gTs rm D gCl (gTys cI cB cC cZ) 46 ad A) {j : Nat} (h : j < 16) {index : Nat} {host : String} {x : Int32} (hl : Cond.fieldLinkNest own index "StageMachine$Channel" "askedAddress" "I" host ∈ gTs) (hd : decode cc pc = .ok (.putfield index, 3)) (kk : gw_V X (gw_P D gCl 46 ad (cE ad cI cB cC)) A nL rv (gw_u S (j + 14) 5 x) (pc + 3) lv rest ans) : gw_V X (gw_P D gCl 46 ad (cE ad cI cB cC)) A nL rv S pc lv (.int x :: .ref (ad (j + 14)) :: rest) ans := gw_putN F cin_Channel cty_Channel ctk_Channel cnm_Channel (j + 14) (chi_Channel h) (cE_Channel h) rfl 5 (by decide) hl rfl rfl (ctk_Channel 5 (by decide)) rfl rfl (Nat.le_of_ble_eq_true rfl) (((cE_Channel h)).trans rfl) hd kk
theorem cg_Channel_askedPause (F : gw_F X l cc nL ret own gTs rm D gCl (gTys cI cB cC cZ) 46 ad A) {j : Nat} (h : j < 16) {index : Nat} (hl : Cond.fieldLink own index "StageMachine$Channel" "askedPause" "I" ∈ gTs) (hd : decode cc pc = .ok (.getfield index, 3)) (kk : gw_V X (gw_P D gCl 46 ad (cE ad cI cB cC)) A nL rv S (pc + 3) lv (.int (S (j + 14) 6) :: rest) ans) : gw_V X (gw_P D gCl 46 ad (cE ad cI cB cC)) A nL rv S pc lv (.ref (ad (j + 14)) :: rest) ans := gw_get F cin_Channel (j + 14) (chi_Channel h) (cE_Channel h) rfl 6 (by decide) hl rfl rfl hd kk
theorem cp_Channel_askedPause (F : gw_F X l cc nL ret own gTs rm D gCl (gTys cI cB cC cZ) 46 ad A) {j : Nat} (h : j < 16) {index : Nat} {x : Int32} (hl : Cond.fieldLink own index "StageMachine$Channel" "askedPause" "I" ∈ gTs) (hd : decode cc pc = .ok (.putfield index, 3)) (kk : gw_V X (gw_P D gCl 46 ad (cE ad cI cB cC)) A nL rv (gw_u S (j + 14) 6 x) (pc + 3) lv rest ans) : gw_V X (gw_P D gCl 46 ad (cE ad cI cB cC)) A nL rv S pc lv (.int x :: .ref (ad (j + 14)) :: rest) ans := gw_put F cin_Channel cty_Channel ctk_Channel cnm_Channel (j + 14) (chi_Channel h) (cE_Channel h) rfl 6 (by decide) hl rfl rfl (ctk_Channel 6 (by decide)) rfl rfl (Nat.le_of_ble_eq_true rfl) (((cE_Channel h)).trans rfl) hd kk
theorem cgN_Channel_askedPause (F : gw_F X l cc nL ret own gTs rm D gCl (gTys cI cB cC cZ) 46 ad A) {j : Nat} (h : j < 16) {index : Nat} {host : String} (hl : Cond.fieldLinkNest own index "StageMachine$Channel" "askedPause" "I" host ∈ gTs) (hd : decode cc pc = .ok (.getfield index, 3)) (kk : gw_V X (gw_P D gCl 46 ad (cE ad cI cB cC)) A nL rv S (pc + 3) lv (.int (S (j + 14) 6) :: rest) ans) : gw_V X (gw_P D gCl 46 ad (cE ad cI cB cC)) A nL rv S pc lv (.ref (ad (j + 14)) :: rest) ans := gw_getN F cin_Channel (j + 14) (chi_Channel h) (cE_Channel h) rfl 6 (by decide) hl rfl rfl hd kk
theorem cpN_Channel_askedPause (F : gw_F X l cc nL ret own gTs rm D gCl (gTys cI cB cC cZ) 46 ad A) {j : Nat} (h : j < 16) {index : Nat} {host : String} {x : Int32} (hl : Cond.fieldLinkNest own index "StageMachine$Channel" "askedPause" "I" host ∈ gTs) (hd : decode cc pc = .ok (.putfield index, 3)) (kk : gw_V X (gw_P D gCl 46 ad (cE ad cI cB cC)) A nL rv (gw_u S (j + 14) 6 x) (pc + 3) lv rest ans) : gw_V X (gw_P D gCl 46 ad (cE ad cI cB cC)) A nL rv S pc lv (.int x :: .ref (ad (j + 14)) :: rest) ans := gw_putN F cin_Channel cty_Channel ctk_Channel cnm_Channel (j + 14) (chi_Channel h) (cE_Channel h) rfl 6 (by decide) hl rfl rfl (ctk_Channel 6 (by decide)) rfl rfl (Nat.le_of_ble_eq_true rfl) (((cE_Channel h)).trans rfl) hd kk
theorem cl_Pile (F : gw_F X l cc nL ret own gTs rm D gCl (gTys cI cB cC cZ) 46 ad A) {j : Nat} (h : j < 16) {j' : Int32} (hin : vp_in j' 8) (hd : decode cc pc = .ok (.iaload, 1)) (kk : gw_V X (gw_P D gCl 46 ad (cE ad cI cB cC)) A nL rv S (pc + 1) lv (.int (S (j + 30) j'.toNatClampNeg) :: rest) ans) : gw_V X (gw_P D gCl 46 ad (cE ad cI cB cC)) A nL rv S pc lv (.int j' :: .ref (ad (j + 30)) :: rest) ans := gw_iald F (j + 30) 0 (chi_Pile h) (cE_Pile h) rfl hin hd kk
theorem cs_Pile (F : gw_F X l cc nL ret own gTs rm D gCl (gTys cI cB cC cZ) 46 ad A) {j : Nat} (h : j < 16) {j' x : Int32} (hin : vp_in j' 8) (hd : decode cc pc = .ok (.iastore, 1)) (kk : gw_V X (gw_P D gCl 46 ad (cE ad cI cB cC)) A nL rv (gw_u S (j + 30) j'.toNatClampNeg x) (pc + 1) lv rest ans) : gw_V X (gw_P D gCl 46 ad (cE ad cI cB cC)) A nL rv S pc lv (.int x :: .int j' :: .ref (ad (j + 30)) :: rest) ans := gw_iast F (j + 30) 0 (chi_Pile h) (cE_Pile h) rfl hin (cE_Pile h) hd kk
theorem cn_Pile (F : gw_F X l cc nL ret own gTs rm D gCl (gTys cI cB cC cZ) 46 ad A) {j : Nat} (h : j < 16) (hd : decode cc pc = .ok (.arraylength, 1)) (kk : gw_V X (gw_P D gCl 46 ad (cE ad cI cB cC)) A nL rv S (pc + 1) lv (.int (8 : Int32) :: rest) ans) : gw_V X (gw_P D gCl 46 ad (cE ad cI cB cC)) A nL rv S pc lv (.ref (ad (j + 30)) :: rest) ans := gw_alen F (j + 30) 0 (chi_Pile h) (cE_Pile h) rfl rfl hd kk
end
