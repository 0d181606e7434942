/-! The classes' tables and the words, printed by program. -/
theorem mT_all {ws : List Cond} (is : List Nat) (h : ws.map some = is.map (fun i => lw_tbl[i]?)) (hg : ws.all goodWord = true) : ∀ w ∈ ws, w ∈ mT := by
  intro w hw
  have h1 : some w ∈ ws.map some := List.mem_map.mpr ⟨w, hw, rfl⟩
  rw [h] at h1
  obtain ⟨i, -, hi⟩ := List.mem_map.mp h1
  exact mT_at i hi (List.all_eq_true.mp hg w hw)
def mft (ci k : Nat) : FieldType := match mcl[ci]? with
  | some q => (parseFieldDescriptor (q.2.1 k).2.2.1).getD .int
  | none => .int
set_option maxRecDepth 100000 in
theorem in_Adjust : ∀ w ∈ u_ws "ColourLinker$Adjust" T_Adjust 5, w ∈ mT := mT_all [736, 737, 730, 732, 734] (by decide +kernel) (by decide +kernel)
theorem ty_Adjust : ∀ k, k < 5 → parseFieldDescriptor (T_Adjust k).2.2.1 = some (mft 0 k) := by decide +kernel
theorem nm_Adjust : ∀ a, a < 5 → ∀ b, b < 5 → a ≠ b → (T_Adjust a).2.1 ≠ (T_Adjust b).2.1 := by decide +kernel
set_option maxRecDepth 100000 in
theorem in_Buffer : ∀ w ∈ u_ws "ColourLinker$Buffer" T_Buffer 2, w ∈ mT := mT_all [108, 110] (by decide +kernel) (by decide +kernel)
theorem ty_Buffer : ∀ k, k < 2 → parseFieldDescriptor (T_Buffer k).2.2.1 = some (mft 1 k) := by decide +kernel
theorem nm_Buffer : ∀ a, a < 2 → ∀ b, b < 2 → a ≠ b → (T_Buffer a).2.1 ≠ (T_Buffer b).2.1 := by decide +kernel
set_option maxRecDepth 100000 in
theorem in_Curve : ∀ w ∈ u_ws "ColourLinker$Curve" T_Curve 2, w ∈ mT := mT_all [302, 304] (by decide +kernel) (by decide +kernel)
theorem ty_Curve : ∀ k, k < 2 → parseFieldDescriptor (T_Curve k).2.2.1 = some (mft 2 k) := by decide +kernel
theorem nm_Curve : ∀ a, a < 2 → ∀ b, b < 2 → a ≠ b → (T_Curve a).2.1 ≠ (T_Curve b).2.1 := by decide +kernel
set_option maxRecDepth 100000 in
theorem in_Curves : ∀ w ∈ u_ws "ColourLinker$Curves" T_Curves 3, w ∈ mT := mT_all [346, 347, 344] (by decide +kernel) (by decide +kernel)
theorem ty_Curves : ∀ k, k < 3 → parseFieldDescriptor (T_Curves k).2.2.1 = some (mft 3 k) := by decide +kernel
theorem nm_Curves : ∀ a, a < 3 → ∀ b, b < 3 → a ≠ b → (T_Curves a).2.1 ≠ (T_Curves b).2.1 := by decide +kernel
set_option maxRecDepth 100000 in
theorem in_Gray : ∀ w ∈ u_ws "ColourLinker$Gray" T_Gray 3, w ∈ mT := mT_all [358, 359, 356] (by decide +kernel) (by decide +kernel)
theorem ty_Gray : ∀ k, k < 3 → parseFieldDescriptor (T_Gray k).2.2.1 = some (mft 4 k) := by decide +kernel
theorem nm_Gray : ∀ a, a < 3 → ∀ b, b < 3 → a ≠ b → (T_Gray a).2.1 ≠ (T_Gray b).2.1 := by decide +kernel
set_option maxRecDepth 100000 in
theorem in_Grid : ∀ w ∈ u_ws "ColourLinker$Grid" T_Grid 6, w ∈ mT := mT_all [327, 328, 319, 321, 323, 325] (by decide +kernel) (by decide +kernel)
theorem ty_Grid : ∀ k, k < 6 → parseFieldDescriptor (T_Grid k).2.2.1 = some (mft 5 k) := by decide +kernel
theorem nm_Grid : ∀ a, a < 6 → ∀ b, b < 6 → a ≠ b → (T_Grid a).2.1 ≠ (T_Grid b).2.1 := by decide +kernel
set_option maxRecDepth 100000 in
theorem in_LabXyz : ∀ w ∈ u_ws "ColourLinker$LabXyz" T_LabXyz 2, w ∈ mT := mT_all [139, 141] (by decide +kernel) (by decide +kernel)
theorem ty_LabXyz : ∀ k, k < 2 → parseFieldDescriptor (T_LabXyz k).2.2.1 = some (mft 6 k) := by decide +kernel
theorem nm_LabXyz : ∀ a, a < 2 → ∀ b, b < 2 → a ≠ b → (T_LabXyz a).2.1 ≠ (T_LabXyz b).2.1 := by decide +kernel
set_option maxRecDepth 100000 in
theorem in_Link : ∀ w ∈ u_ws "ColourLinker$Link" T_Link 9, w ∈ mT := mT_all [760, 762, 764, 766, 768, 770, 772, 774, 776] (by decide +kernel) (by decide +kernel)
theorem ty_Link : ∀ k, k < 9 → parseFieldDescriptor (T_Link k).2.2.1 = some (mft 7 k) := by decide +kernel
theorem nm_Link : ∀ a, a < 9 → ∀ b, b < 9 → a ≠ b → (T_Link a).2.1 ≠ (T_Link b).2.1 := by decide +kernel
set_option maxRecDepth 100000 in
theorem in_Matrix : ∀ w ∈ u_ws "ColourLinker$Matrix" T_Matrix 4, w ∈ mT := mT_all [386, 387, 382, 384] (by decide +kernel) (by decide +kernel)
theorem ty_Matrix : ∀ k, k < 4 → parseFieldDescriptor (T_Matrix k).2.2.1 = some (mft 8 k) := by decide +kernel
theorem nm_Matrix : ∀ a, a < 4 → ∀ b, b < 4 → a ≠ b → (T_Matrix a).2.1 ≠ (T_Matrix b).2.1 := by decide +kernel
set_option maxRecDepth 100000 in
theorem in_Profile : ∀ w ∈ u_ws "ColourLinker$Profile" T_Profile 11, w ∈ mT := mT_all [411, 413, 415, 417, 419, 421, 423, 425, 427, 429, 431] (by decide +kernel) (by decide +kernel)
theorem ty_Profile : ∀ k, k < 11 → parseFieldDescriptor (T_Profile k).2.2.1 = some (mft 9 k) := by decide +kernel
theorem nm_Profile : ∀ a, a < 11 → ∀ b, b < 11 → a ≠ b → (T_Profile a).2.1 ≠ (T_Profile b).2.1 := by decide +kernel
set_option maxRecDepth 100000 in
theorem in_CL : ∀ w ∈ u_ws "ColourLinker" T_CL 11, w ∈ mT := mT_all [157, 159, 161, 163, 165, 167, 169, 171, 173, 175, 177] (by decide +kernel) (by decide +kernel)
theorem ty_CL : ∀ k, k < 11 → parseFieldDescriptor (T_CL k).2.2.1 = some (mft 10 k) := by decide +kernel
theorem nm_CL : ∀ a, a < 11 → ∀ b, b < 11 → a ≠ b → (T_CL a).2.1 ≠ (T_CL b).2.1 := by decide +kernel
set_option maxRecDepth 100000 in
theorem in_Mo : ∀ w ∈ u_ws "ColourLinkerModel" T_Mo 21, w ∈ mT := mT_all [855, 857, 859, 861, 863, 865, 867, 869, 871, 873, 875, 877, 879, 881, 883, 885, 887, 889, 891, 893, 895] (by decide +kernel) (by decide +kernel)
theorem ty_Mo : ∀ k, k < 21 → parseFieldDescriptor (T_Mo k).2.2.1 = some (mft 11 k) := by decide +kernel
theorem nm_Mo : ∀ a, a < 21 → ∀ b, b < 21 → a ≠ b → (T_Mo a).2.1 ≠ (T_Mo b).2.1 := by decide +kernel
theorem mcl_in (ci : Nat) (q : vw_C) (h : mcl[ci]? = some q) : ∀ w ∈ u_ws q.1 q.2.1 q.2.2, w ∈ mT := by
  match ci, h with
  | 0, h => cases h; exact in_Adjust
  | 1, h => cases h; exact in_Buffer
  | 2, h => cases h; exact in_Curve
  | 3, h => cases h; exact in_Curves
  | 4, h => cases h; exact in_Gray
  | 5, h => cases h; exact in_Grid
  | 6, h => cases h; exact in_LabXyz
  | 7, h => cases h; exact in_Link
  | 8, h => cases h; exact in_Matrix
  | 9, h => cases h; exact in_Profile
  | 10, h => cases h; exact in_CL
  | 11, h => cases h; exact in_Mo
  | n + 12, h => cases h
theorem mcl_ty (ci : Nat) (q : vw_C) (h : mcl[ci]? = some q) : ∀ k, k < q.2.2 → parseFieldDescriptor (q.2.1 k).2.2.1 = some (mft ci k) := by
  match ci, h with
  | 0, h => cases h; exact ty_Adjust
  | 1, h => cases h; exact ty_Buffer
  | 2, h => cases h; exact ty_Curve
  | 3, h => cases h; exact ty_Curves
  | 4, h => cases h; exact ty_Gray
  | 5, h => cases h; exact ty_Grid
  | 6, h => cases h; exact ty_LabXyz
  | 7, h => cases h; exact ty_Link
  | 8, h => cases h; exact ty_Matrix
  | 9, h => cases h; exact ty_Profile
  | 10, h => cases h; exact ty_CL
  | 11, h => cases h; exact ty_Mo
  | n + 12, h => cases h
theorem mcl_nm (ci : Nat) (q : vw_C) (h : mcl[ci]? = some q) : ∀ a, a < q.2.2 → ∀ b, b < q.2.2 → a ≠ b → (q.2.1 a).2.1 ≠ (q.2.1 b).2.1 := by
  match ci, h with
  | 0, h => cases h; exact nm_Adjust
  | 1, h => cases h; exact nm_Buffer
  | 2, h => cases h; exact nm_Curve
  | 3, h => cases h; exact nm_Curves
  | 4, h => cases h; exact nm_Gray
  | 5, h => cases h; exact nm_Grid
  | 6, h => cases h; exact nm_LabXyz
  | 7, h => cases h; exact nm_Link
  | 8, h => cases h; exact nm_Matrix
  | 9, h => cases h; exact nm_Profile
  | 10, h => cases h; exact nm_CL
  | 11, h => cases h; exact nm_Mo
  | n + 12, h => cases h
theorem mcP_Adjust : Cond.castable "ColourLinker$Adjust" "ColourLinker$Piece" ∈ mNW := mNW_at 1216 (by decide +kernel) rfl
theorem mcP_Curves : Cond.castable "ColourLinker$Curves" "ColourLinker$Piece" ∈ mNW := mNW_at 1217 (by decide +kernel) rfl
theorem mcP_Gray : Cond.castable "ColourLinker$Gray" "ColourLinker$Piece" ∈ mNW := mNW_at 1218 (by decide +kernel) rfl
theorem mcP_Grid : Cond.castable "ColourLinker$Grid" "ColourLinker$Piece" ∈ mNW := mNW_at 1219 (by decide +kernel) rfl
theorem mcP_LabXyz : Cond.castable "ColourLinker$LabXyz" "ColourLinker$Piece" ∈ mNW := mNW_at 1220 (by decide +kernel) rfl
theorem mcP_Matrix : Cond.castable "ColourLinker$Matrix" "ColourLinker$Piece" ∈ mNW := mNW_at 1221 (by decide +kernel) rfl
