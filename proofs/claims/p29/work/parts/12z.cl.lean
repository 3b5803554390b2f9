theorem xin1 {w : Cond} (i : Nat) (hi : tables_1_1[i]? = some w) (hg : goodWord w = true) : w ∈ xT := List.mem_filter.mpr ⟨List.mem_append_right _ (List.mem_append_left _ (List.mem_of_getElem? hi)), hg⟩
theorem xin2 {w : Cond} (i : Nat) (hi : tables_1_2[i]? = some w) (hg : goodWord w = true) : w ∈ xT := List.mem_filter.mpr ⟨List.mem_append_right _ (List.mem_append_right _ (List.mem_append_left _ (List.mem_of_getElem? hi))), hg⟩
theorem xin3 {w : Cond} (i : Nat) (hi : tables_1_3[i]? = some w) (hg : goodWord w = true) : w ∈ xT := List.mem_filter.mpr ⟨List.mem_append_right _ (List.mem_append_right _ (List.mem_append_right _ (List.mem_append_left _ (List.mem_of_getElem? hi)))), hg⟩
theorem xin4 {w : Cond} (i : Nat) (hi : tables_1_4[i]? = some w) (hg : goodWord w = true) : w ∈ xT := List.mem_filter.mpr ⟨List.mem_append_right _ (List.mem_append_right _ (List.mem_append_right _ (List.mem_append_right _ (List.mem_append_left _ (List.mem_of_getElem? hi))))), hg⟩
theorem xin5 {w : Cond} (i : Nat) (hi : tables_1_5[i]? = some w) (hg : goodWord w = true) : w ∈ xT := List.mem_filter.mpr ⟨List.mem_append_right _ (List.mem_append_right _ (List.mem_append_right _ (List.mem_append_right _ (List.mem_append_right _ (List.mem_of_getElem? hi))))), hg⟩
/-- a class's words, by their places -/
theorem ws_in {C : String} {T : u_T} {N : Nat} (f : Nat → Nat) (h : ∀ k, k < N → tables_1[f k]? = some (u_lay C T k)) (hg : ∀ k, k < N → goodWord (u_lay C T k) = true) : ∀ w ∈ u_ws C T N, w ∈ xT := by
  intro w hw
  obtain ⟨k, hk, rfl⟩ := List.mem_map.mp hw
  exact xin (f k) (h k (List.mem_range.mp hk)) (hg k (List.mem_range.mp hk))
def ixX0 : Nat → Nat := fun k => [217, 219, 221].getD k 0
theorem clX0 : xCl 0 RX0 TX0 3 tyX0 := ⟨rfl, ws_in ixX0 (by decide +kernel) (by decide +kernel), tyX0_ok, nmX0⟩
def ixX1 : Nat → Nat := fun k => [47, 49, 51, 53, 55, 57, 59, 61, 63, 65, 67, 69, 71, 73].getD k 0
theorem clX1 : xCl 1 RX1 TX1 14 tyX1 := ⟨rfl, ws_in ixX1 (by decide +kernel) (by decide +kernel), tyX1_ok, nmX1⟩
def ixX2 : Nat → Nat := fun k => [168, 170, 172, 174, 176].getD k 0
theorem clX2 : xCl 2 RX2 TX2 5 tyX2 := ⟨rfl, ws_in ixX2 (by decide +kernel) (by decide +kernel), tyX2_ok, nmX2⟩
def ixX3 : Nat → Nat := fun k => [377, 379, 381, 383, 385, 387, 389].getD k 0
theorem clX3 : xCl 3 RX3 TX3 7 tyX3 := ⟨rfl, ws_in ixX3 (by decide +kernel) (by decide +kernel), tyX3_ok, nmX3⟩
def ixX4 : Nat → Nat := fun k => [99, 101, 103, 105, 107].getD k 0
theorem clX4 : xCl 4 RX4 TX4 5 tyX4 := ⟨rfl, ws_in ixX4 (by decide +kernel) (by decide +kernel), tyX4_ok, nmX4⟩
def ixX5 : Nat → Nat := fun k => [135, 137, 139, 141, 143, 145, 147, 149, 151].getD k 0
theorem clX5 : xCl 5 RX5 TX5 9 tyX5 := ⟨rfl, ws_in ixX5 (by decide +kernel) (by decide +kernel), tyX5_ok, nmX5⟩
def ixX6 : Nat → Nat := fun k => [196, 198, 200, 202, 204].getD k 0
theorem clX6 : xCl 6 RX6 TX6 5 tyX6 := ⟨rfl, ws_in ixX6 (by decide +kernel) (by decide +kernel), tyX6_ok, nmX6⟩
def ixX7 : Nat → Nat := fun k => [594, 596, 598, 600, 602, 604, 606, 608, 610, 612, 614, 616, 618, 620].getD k 0
theorem clX7 : xCl 7 RX7 TX7 14 tyX7 := ⟨rfl, ws_in ixX7 (by decide +kernel) (by decide +kernel), tyX7_ok, nmX7⟩
def ixX8 : Nat → Nat := fun k => [234, 236, 238, 240, 242, 244, 246, 248, 250, 252].getD k 0
theorem clX8 : xCl 8 RX8 TX8 10 tyX8 := ⟨rfl, ws_in ixX8 (by decide +kernel) (by decide +kernel), tyX8_ok, nmX8⟩
def ixX9 : Nat → Nat := fun k => [762, 764, 766, 768, 770, 772, 774, 776, 778, 780, 782, 784, 786, 788, 790, 792, 794, 796, 798, 800, 802, 804, 806, 808, 810, 812, 814, 816, 818, 820, 822, 824, 826, 828, 830, 832, 834, 836, 838, 840, 842, 844, 846, 848, 850, 852].getD k 0
theorem clX9 : xCl 9 RX9 TX9 46 tyX9 := ⟨rfl, ws_in ixX9 (by decide +kernel) (by decide +kernel), tyX9_ok, nmX9⟩
