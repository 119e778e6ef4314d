/-! the words of every method: those of the tables that are kept; where each stands -/
def bigW : List Cond := lw_tbl.filter goodWord
theorem bigW_tbl : ∀ w ∈ bigW, w ∈ lw_tbl := fun _ h => (List.mem_filter.mp h).1
theorem bigW_in {ws : List Cond} (h : ∀ w ∈ ws, w ∈ bigW) : GoodIn bigW ws := fun w hw => ⟨h w hw, good_of_word (List.mem_filter.mp (h w hw)).2⟩
theorem bw {w : Cond} (i : Nat) (h : lw_tbl[i]? = some w) (g : goodWord w = true) : w ∈ bigW := List.mem_filter.mpr ⟨List.mem_of_getElem? h, g⟩
theorem wI_MornMarketLaw : Cond.initialized RL ∈ bigW := bw 48 (by decide +kernel) (by decide +kernel)
theorem wI_MornMarket : Cond.initialized RX5 ∈ bigW := bw 49 (by decide +kernel) (by decide +kernel)
theorem wI_MornMarket_Market : Cond.initialized RX1 ∈ bigW := bw 50 (by decide +kernel) (by decide +kernel)
theorem wI_MornMarket_TextReader : Cond.initialized RX4 ∈ bigW := bw 51 (by decide +kernel) (by decide +kernel)
theorem wI_MornMarket_Keeping : Cond.initialized RX0 ∈ bigW := bw 52 (by decide +kernel) (by decide +kernel)
theorem wI_MornMarket_Readings : Cond.initialized RX2 ∈ bigW := bw 53 (by decide +kernel) (by decide +kernel)
theorem wI_MornMarket_Sheet : Cond.initialized RX3 ∈ bigW := bw 54 (by decide +kernel) (by decide +kernel)
theorem wI_MornMarketModel : Cond.initialized RX6 ∈ bigW := bw 55 (by decide +kernel) (by decide +kernel)
theorem wI_java_lang_System : Cond.initialized RJ10 ∈ bigW := bw 56 (by decide +kernel) (by decide +kernel)
theorem wI_java_util_Arrays : Cond.initialized RJ7 ∈ bigW := bw 57 (by decide +kernel) (by decide +kernel)
theorem wI_java_lang_Integer : Cond.initialized RJ6 ∈ bigW := bw 58 (by decide +kernel) (by decide +kernel)
theorem wC_J6_265 : Cond.constant RJ6 265 (1431655765) ∈ bigW := bw 327 (by decide +kernel) (by decide +kernel)
theorem wC_J6_266 : Cond.constant RJ6 266 (858993459) ∈ bigW := bw 328 (by decide +kernel) (by decide +kernel)
theorem wC_J6_267 : Cond.constant RJ6 267 (252645135) ∈ bigW := bw 329 (by decide +kernel) (by decide +kernel)
theorem wC_X5_209 : Cond.constantLong RX5 209 (-9223372036854775808) ∈ bigW := bw 539 (by decide +kernel) (by decide +kernel)
theorem wC_X6_84 : Cond.constantLong RX6 84 (-9223372036854775808) ∈ bigW := bw 965 (by decide +kernel) (by decide +kernel)
/-! the fields of a class -/
theorem inX0 : ∀ w ∈ u_ws RX0 TX0 3, w ∈ bigW := by
  intro w hw
  have e : u_ws RX0 TX0 3 = ([162, 164, 166] : List Nat).filterMap (fun i => lw_tbl[i]?) := by decide +kernel
  have g : (u_ws RX0 TX0 3).all goodWord = true := by decide +kernel
  refine List.mem_filter.mpr ⟨?_, List.all_eq_true.mp g w hw⟩
  rw [e] at hw
  obtain ⟨i, -, hi⟩ := List.mem_filterMap.mp hw
  exact List.mem_of_getElem? hi
theorem inX1 : ∀ w ∈ u_ws RX1 TX1 12, w ∈ bigW := by
  intro w hw
  have e : u_ws RX1 TX1 12 = ([107, 109, 111, 113, 115, 117, 119, 121, 123, 125, 127, 129] : List Nat).filterMap (fun i => lw_tbl[i]?) := by decide +kernel
  have g : (u_ws RX1 TX1 12).all goodWord = true := by decide +kernel
  refine List.mem_filter.mpr ⟨?_, List.all_eq_true.mp g w hw⟩
  rw [e] at hw
  obtain ⟨i, -, hi⟩ := List.mem_filterMap.mp hw
  exact List.mem_of_getElem? hi
theorem inX2 : ∀ w ∈ u_ws RX2 TX2 4, w ∈ bigW := by
  intro w hw
  have e : u_ws RX2 TX2 4 = ([180, 182, 184, 186] : List Nat).filterMap (fun i => lw_tbl[i]?) := by decide +kernel
  have g : (u_ws RX2 TX2 4).all goodWord = true := by decide +kernel
  refine List.mem_filter.mpr ⟨?_, List.all_eq_true.mp g w hw⟩
  rw [e] at hw
  obtain ⟨i, -, hi⟩ := List.mem_filterMap.mp hw
  exact List.mem_of_getElem? hi
theorem inX3 : ∀ w ∈ u_ws RX3 TX3 3, w ∈ bigW := by
  intro w hw
  have e : u_ws RX3 TX3 3 = ([201, 203, 205] : List Nat).filterMap (fun i => lw_tbl[i]?) := by decide +kernel
  have g : (u_ws RX3 TX3 3).all goodWord = true := by decide +kernel
  refine List.mem_filter.mpr ⟨?_, List.all_eq_true.mp g w hw⟩
  rw [e] at hw
  obtain ⟨i, -, hi⟩ := List.mem_filterMap.mp hw
  exact List.mem_of_getElem? hi
theorem inX4 : ∀ w ∈ u_ws RX4 TX4 4, w ∈ bigW := by
  intro w hw
  have e : u_ws RX4 TX4 4 = ([143, 145, 147, 149] : List Nat).filterMap (fun i => lw_tbl[i]?) := by decide +kernel
  have g : (u_ws RX4 TX4 4).all goodWord = true := by decide +kernel
  refine List.mem_filter.mpr ⟨?_, List.all_eq_true.mp g w hw⟩
  rw [e] at hw
  obtain ⟨i, -, hi⟩ := List.mem_filterMap.mp hw
  exact List.mem_of_getElem? hi
theorem inX5 : ∀ w ∈ u_ws RX5 TX5 8, w ∈ bigW := by
  intro w hw
  have e : u_ws RX5 TX5 8 = ([216, 218, 220, 222, 224, 226, 228, 230] : List Nat).filterMap (fun i => lw_tbl[i]?) := by decide +kernel
  have g : (u_ws RX5 TX5 8).all goodWord = true := by decide +kernel
  refine List.mem_filter.mpr ⟨?_, List.all_eq_true.mp g w hw⟩
  rw [e] at hw
  obtain ⟨i, -, hi⟩ := List.mem_filterMap.mp hw
  exact List.mem_of_getElem? hi
theorem inX6 : ∀ w ∈ u_ws RX6 TX6 37, w ∈ bigW := by
  intro w hw
  have e : u_ws RX6 TX6 37 = ([665, 667, 669, 671, 673, 675, 677, 679, 681, 683, 685, 687, 689, 691, 693, 695, 697, 699, 701, 703, 705, 707, 709, 711, 713, 715, 717, 719, 721, 723, 725, 727, 729, 731, 733, 735, 737] : List Nat).filterMap (fun i => lw_tbl[i]?) := by decide +kernel
  have g : (u_ws RX6 TX6 37).all goodWord = true := by decide +kernel
  refine List.mem_filter.mpr ⟨?_, List.all_eq_true.mp g w hw⟩
  rw [e] at hw
  obtain ⟨i, -, hi⟩ := List.mem_filterMap.mp hw
  exact List.mem_of_getElem? hi
