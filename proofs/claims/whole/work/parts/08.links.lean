theorem ly0 : ∀ w ∈ u_ws "BracedPages" bp_T0 9, w ∈ bp_WS := List.forall_mem_cons.mpr ⟨wd377, List.forall_mem_cons.mpr ⟨wd379, List.forall_mem_cons.mpr ⟨wd381, List.forall_mem_cons.mpr ⟨wd383, List.forall_mem_cons.mpr ⟨wd385, List.forall_mem_cons.mpr ⟨wd387, List.forall_mem_cons.mpr ⟨wd389, List.forall_mem_cons.mpr ⟨wd391, List.forall_mem_cons.mpr ⟨wd393, fun _ h => absurd h List.not_mem_nil⟩⟩⟩⟩⟩⟩⟩⟩⟩
theorem ly1 : ∀ w ∈ u_ws "BracedPages$Row" bp_T1 2, w ∈ bp_WS := List.forall_mem_cons.mpr ⟨wd131, List.forall_mem_cons.mpr ⟨wd133, fun _ h => absurd h List.not_mem_nil⟩⟩
theorem ly2 : ∀ w ∈ u_ws "BracedPages$Page" bp_T2 6, w ∈ bp_WS := List.forall_mem_cons.mpr ⟨wd151, List.forall_mem_cons.mpr ⟨wd153, List.forall_mem_cons.mpr ⟨wd155, List.forall_mem_cons.mpr ⟨wd157, List.forall_mem_cons.mpr ⟨wd159, List.forall_mem_cons.mpr ⟨wd161, fun _ h => absurd h List.not_mem_nil⟩⟩⟩⟩⟩⟩
theorem ly3 : ∀ w ∈ u_ws "BracedPages$BracedReader" bp_T3 17, w ∈ bp_WS := List.forall_mem_cons.mpr ⟨wd256, List.forall_mem_cons.mpr ⟨wd258, List.forall_mem_cons.mpr ⟨wd260, List.forall_mem_cons.mpr ⟨wd262, List.forall_mem_cons.mpr ⟨wd264, List.forall_mem_cons.mpr ⟨wd266, List.forall_mem_cons.mpr ⟨wd268, List.forall_mem_cons.mpr ⟨wd270, List.forall_mem_cons.mpr ⟨wd272, List.forall_mem_cons.mpr ⟨wd274, List.forall_mem_cons.mpr ⟨wd276, List.forall_mem_cons.mpr ⟨wd278, List.forall_mem_cons.mpr ⟨wd280, List.forall_mem_cons.mpr ⟨wd282, List.forall_mem_cons.mpr ⟨wd284, List.forall_mem_cons.mpr ⟨wd286, List.forall_mem_cons.mpr ⟨wd288, fun _ h => absurd h List.not_mem_nil⟩⟩⟩⟩⟩⟩⟩⟩⟩⟩⟩⟩⟩⟩⟩⟩⟩
theorem ly4 : ∀ w ∈ u_ws "BracedPages$State" bp_T4 6, w ∈ bp_WS := List.forall_mem_cons.mpr ⟨wd191, List.forall_mem_cons.mpr ⟨wd193, List.forall_mem_cons.mpr ⟨wd195, List.forall_mem_cons.mpr ⟨wd197, List.forall_mem_cons.mpr ⟨wd199, List.forall_mem_cons.mpr ⟨wd201, fun _ h => absurd h List.not_mem_nil⟩⟩⟩⟩⟩⟩
theorem ly5 : ∀ w ∈ u_ws "BracedPages$ColourTable" bp_T5 3, w ∈ bp_WS := List.forall_mem_cons.mpr ⟨wd216, List.forall_mem_cons.mpr ⟨wd218, List.forall_mem_cons.mpr ⟨wd220, fun _ h => absurd h List.not_mem_nil⟩⟩⟩
theorem ly6 : ∀ w ∈ u_ws "BracedPages$TaggedReader" bp_T6 16, w ∈ bp_WS := List.forall_mem_cons.mpr ⟨wd307, List.forall_mem_cons.mpr ⟨wd309, List.forall_mem_cons.mpr ⟨wd311, List.forall_mem_cons.mpr ⟨wd313, List.forall_mem_cons.mpr ⟨wd315, List.forall_mem_cons.mpr ⟨wd317, List.forall_mem_cons.mpr ⟨wd319, List.forall_mem_cons.mpr ⟨wd321, List.forall_mem_cons.mpr ⟨wd323, List.forall_mem_cons.mpr ⟨wd325, List.forall_mem_cons.mpr ⟨wd327, List.forall_mem_cons.mpr ⟨wd328, List.forall_mem_cons.mpr ⟨wd329, List.forall_mem_cons.mpr ⟨wd330, List.forall_mem_cons.mpr ⟨wd331, List.forall_mem_cons.mpr ⟨wd332, fun _ h => absurd h List.not_mem_nil⟩⟩⟩⟩⟩⟩⟩⟩⟩⟩⟩⟩⟩⟩⟩⟩
theorem ly7 : ∀ w ∈ u_ws "BracedPages$BracedWriter" bp_T7 3, w ∈ bp_WS := List.forall_mem_cons.mpr ⟨wd352, List.forall_mem_cons.mpr ⟨wd354, List.forall_mem_cons.mpr ⟨wd356, fun _ h => absurd h List.not_mem_nil⟩⟩⟩
theorem ly8 : ∀ w ∈ u_ws "BracedPages$TaggedWriter" bp_T8 2, w ∈ bp_WS := List.forall_mem_cons.mpr ⟨wd365, List.forall_mem_cons.mpr ⟨wd366, fun _ h => absurd h List.not_mem_nil⟩⟩
theorem ly9 : ∀ w ∈ u_ws "BracedPagesModel" bp_T9 34, w ∈ bp_WS := List.forall_mem_cons.mpr ⟨wd1345, List.forall_mem_cons.mpr ⟨wd1347, List.forall_mem_cons.mpr ⟨wd1349, List.forall_mem_cons.mpr ⟨wd1351, List.forall_mem_cons.mpr ⟨wd1353, List.forall_mem_cons.mpr ⟨wd1355, List.forall_mem_cons.mpr ⟨wd1357, List.forall_mem_cons.mpr ⟨wd1359, List.forall_mem_cons.mpr ⟨wd1361, List.forall_mem_cons.mpr ⟨wd1363, List.forall_mem_cons.mpr ⟨wd1365, List.forall_mem_cons.mpr ⟨wd1367, List.forall_mem_cons.mpr ⟨wd1369, List.forall_mem_cons.mpr ⟨wd1371, List.forall_mem_cons.mpr ⟨wd1373, List.forall_mem_cons.mpr ⟨wd1375, List.forall_mem_cons.mpr ⟨wd1377, List.forall_mem_cons.mpr ⟨wd1379, List.forall_mem_cons.mpr ⟨wd1381, List.forall_mem_cons.mpr ⟨wd1383, List.forall_mem_cons.mpr ⟨wd1385, List.forall_mem_cons.mpr ⟨wd1387, List.forall_mem_cons.mpr ⟨wd1389, List.forall_mem_cons.mpr ⟨wd1391, List.forall_mem_cons.mpr ⟨wd1393, List.forall_mem_cons.mpr ⟨wd1395, List.forall_mem_cons.mpr ⟨wd1397, List.forall_mem_cons.mpr ⟨wd1399, List.forall_mem_cons.mpr ⟨wd1401, List.forall_mem_cons.mpr ⟨wd1403, List.forall_mem_cons.mpr ⟨wd1405, List.forall_mem_cons.mpr ⟨wd1407, List.forall_mem_cons.mpr ⟨wd1409, List.forall_mem_cons.mpr ⟨wd1411, fun _ h => absurd h List.not_mem_nil⟩⟩⟩⟩⟩⟩⟩⟩⟩⟩⟩⟩⟩⟩⟩⟩⟩⟩⟩⟩⟩⟩⟩⟩⟩⟩⟩⟩⟩⟩⟩⟩⟩⟩
theorem ly10 : ∀ w ∈ u_ws "java/lang/IllegalArgumentException" bp_T10 0, w ∈ bp_WS := fun _ h => absurd h List.not_mem_nil
theorem ly11 : ∀ w ∈ u_ws "java/lang/UnsupportedOperationException" bp_T11 0, w ∈ bp_WS := fun _ h => absurd h List.not_mem_nil
theorem ly12 : ∀ w ∈ u_ws "java/lang/IllegalStateException" bp_T12 0, w ∈ bp_WS := fun _ h => absurd h List.not_mem_nil
theorem ly13 : ∀ w ∈ u_ws "java/util/NoSuchElementException" bp_T13 0, w ∈ bp_WS := fun _ h => absurd h List.not_mem_nil
theorem cl0 : bp_Cl 0 := by
  intro r hr
  obtain rfl := Option.some.inj hr
  exact ⟨by decide +kernel, by decide +kernel⟩
theorem cl1 : bp_Cl 1 := by
  intro r hr
  obtain rfl := Option.some.inj hr
  exact ⟨by decide +kernel, by decide +kernel⟩
theorem cl2 : bp_Cl 2 := by
  intro r hr
  obtain rfl := Option.some.inj hr
  exact ⟨by decide +kernel, by decide +kernel⟩
theorem cl3 : bp_Cl 3 := by
  intro r hr
  obtain rfl := Option.some.inj hr
  exact ⟨by decide +kernel, by decide +kernel⟩
theorem cl4 : bp_Cl 4 := by
  intro r hr
  obtain rfl := Option.some.inj hr
  exact ⟨by decide +kernel, by decide +kernel⟩
theorem cl5 : bp_Cl 5 := by
  intro r hr
  obtain rfl := Option.some.inj hr
  exact ⟨by decide +kernel, by decide +kernel⟩
theorem cl6 : bp_Cl 6 := by
  intro r hr
  obtain rfl := Option.some.inj hr
  exact ⟨by decide +kernel, by decide +kernel⟩
theorem cl7 : bp_Cl 7 := by
  intro r hr
  obtain rfl := Option.some.inj hr
  exact ⟨by decide +kernel, by decide +kernel⟩
theorem cl8 : bp_Cl 8 := by
  intro r hr
  obtain rfl := Option.some.inj hr
  exact ⟨by decide +kernel, by decide +kernel⟩
theorem cl9 : bp_Cl 9 := by
  intro r hr
  obtain rfl := Option.some.inj hr
  exact ⟨by decide +kernel, by decide +kernel⟩
theorem cl10 : bp_Cl 10 := by
  intro r hr
  obtain rfl := Option.some.inj hr
  exact ⟨by decide +kernel, by decide +kernel⟩
theorem cl11 : bp_Cl 11 := by
  intro r hr
  obtain rfl := Option.some.inj hr
  exact ⟨by decide +kernel, by decide +kernel⟩
theorem cl12 : bp_Cl 12 := by
  intro r hr
  obtain rfl := Option.some.inj hr
  exact ⟨by decide +kernel, by decide +kernel⟩
theorem cl13 : bp_Cl 13 := by
  intro r hr
  obtain rfl := Option.some.inj hr
  exact ⟨by decide +kernel, by decide +kernel⟩
theorem fl_X_14_0 : bp_Fl "BracedPages" 14 0 0 := ⟨("BracedPages", bp_T0, 9), "BracedPages", rfl, by decide, ly0, Or.inl wd368, Or.inl rfl⟩
theorem fl_X_18_0 : bp_Fl "BracedPages" 18 0 1 := ⟨("BracedPages", bp_T0, 9), "BracedPages", rfl, by decide, ly0, Or.inl wd369, Or.inl rfl⟩
theorem fl_X_24_0 : bp_Fl "BracedPages" 24 0 2 := ⟨("BracedPages", bp_T0, 9), "BracedPages", rfl, by decide, ly0, Or.inl wd370, Or.inl rfl⟩
theorem fl_X_28_0 : bp_Fl "BracedPages" 28 0 3 := ⟨("BracedPages", bp_T0, 9), "BracedPages", rfl, by decide, ly0, Or.inl wd371, Or.inl rfl⟩
theorem fl_X_36_0 : bp_Fl "BracedPages" 36 0 4 := ⟨("BracedPages", bp_T0, 9), "BracedPages", rfl, by decide, ly0, Or.inl wd372, Or.inl rfl⟩
theorem fl_X_43_0 : bp_Fl "BracedPages" 43 0 5 := ⟨("BracedPages", bp_T0, 9), "BracedPages", rfl, by decide, ly0, Or.inl wd373, Or.inl rfl⟩
theorem fl_X_51_0 : bp_Fl "BracedPages" 51 0 6 := ⟨("BracedPages", bp_T0, 9), "BracedPages", rfl, by decide, ly0, Or.inl wd374, Or.inl rfl⟩
theorem fl_X_58_0 : bp_Fl "BracedPages" 58 0 7 := ⟨("BracedPages", bp_T0, 9), "BracedPages", rfl, by decide, ly0, Or.inl wd375, Or.inl rfl⟩
theorem fl_X_61_0 : bp_Fl "BracedPages" 61 0 8 := ⟨("BracedPages", bp_T0, 9), "BracedPages", rfl, by decide, ly0, Or.inl wd376, Or.inl rfl⟩
theorem fl_BR_14_3 : bp_Fl "BracedPages$BracedReader" 14 3 0 := ⟨("BracedPages$BracedReader", bp_T3, 17), "BracedPages$BracedReader", rfl, by decide, ly3, Or.inl wd223, Or.inl rfl⟩
theorem fl_BR_20_3 : bp_Fl "BracedPages$BracedReader" 20 3 1 := ⟨("BracedPages$BracedReader", bp_T3, 17), "BracedPages$BracedReader", rfl, by decide, ly3, Or.inl wd224, Or.inl rfl⟩
theorem fl_BR_27_3 : bp_Fl "BracedPages$BracedReader" 27 3 2 := ⟨("BracedPages$BracedReader", bp_T3, 17), "BracedPages$BracedReader", rfl, by decide, ly3, Or.inl wd225, Or.inl rfl⟩
theorem fl_BR_35_3 : bp_Fl "BracedPages$BracedReader" 35 3 3 := ⟨("BracedPages$BracedReader", bp_T3, 17), "BracedPages$BracedReader", rfl, by decide, ly3, Or.inl wd226, Or.inl rfl⟩
theorem fl_BR_39_3 : bp_Fl "BracedPages$BracedReader" 39 3 4 := ⟨("BracedPages$BracedReader", bp_T3, 17), "BracedPages$BracedReader", rfl, by decide, ly3, Or.inl wd227, Or.inl rfl⟩
theorem fl_BR_43_3 : bp_Fl "BracedPages$BracedReader" 43 3 5 := ⟨("BracedPages$BracedReader", bp_T3, 17), "BracedPages$BracedReader", rfl, by decide, ly3, Or.inl wd228, Or.inl rfl⟩
theorem fl_BR_46_3 : bp_Fl "BracedPages$BracedReader" 46 3 6 := ⟨("BracedPages$BracedReader", bp_T3, 17), "BracedPages$BracedReader", rfl, by decide, ly3, Or.inl wd229, Or.inl rfl⟩
theorem fl_BR_49_3 : bp_Fl "BracedPages$BracedReader" 49 3 7 := ⟨("BracedPages$BracedReader", bp_T3, 17), "BracedPages$BracedReader", rfl, by decide, ly3, Or.inl wd230, Or.inl rfl⟩
theorem fl_BR_52_3 : bp_Fl "BracedPages$BracedReader" 52 3 11 := ⟨("BracedPages$BracedReader", bp_T3, 17), "BracedPages$BracedReader", rfl, by decide, ly3, Or.inl wd235, Or.inr wd236⟩
theorem fl_BR_66_3 : bp_Fl "BracedPages$BracedReader" 66 3 13 := ⟨("BracedPages$BracedReader", bp_T3, 17), "BracedPages$BracedReader", rfl, by decide, ly3, Or.inl wd244, Or.inr wd245⟩
theorem fl_BR_90_3 : bp_Fl "BracedPages$BracedReader" 90 3 12 := ⟨("BracedPages$BracedReader", bp_T3, 17), "BracedPages$BracedReader", rfl, by decide, ly3, Or.inl wd240, Or.inr wd241⟩
theorem fl_BR_100_3 : bp_Fl "BracedPages$BracedReader" 100 3 14 := ⟨("BracedPages$BracedReader", bp_T3, 17), "BracedPages$BracedReader", rfl, by decide, ly3, Or.inl wd249, Or.inr wd250⟩
theorem fl_BR_155_3 : bp_Fl "BracedPages$BracedReader" 155 3 8 := ⟨("BracedPages$BracedReader", bp_T3, 17), "BracedPages$BracedReader", rfl, by decide, ly3, Or.inl wd231, Or.inl rfl⟩
theorem fl_BR_161_3 : bp_Fl "BracedPages$BracedReader" 161 3 9 := ⟨("BracedPages$BracedReader", bp_T3, 17), "BracedPages$BracedReader", rfl, by decide, ly3, Or.inl wd232, Or.inl rfl⟩
theorem fl_BR_164_3 : bp_Fl "BracedPages$BracedReader" 164 3 10 := ⟨("BracedPages$BracedReader", bp_T3, 17), "BracedPages$BracedReader", rfl, by decide, ly3, Or.inl wd233, Or.inl rfl⟩
theorem fl_BR_219_4 : bp_Fl "BracedPages$BracedReader" 219 4 1 := ⟨("BracedPages$State", bp_T4, 6), "BracedPages$State", rfl, by decide, ly4, Or.inr ⟨_, wd182⟩, Or.inl rfl⟩
theorem fl_BR_224_4 : bp_Fl "BracedPages$BracedReader" 224 4 2 := ⟨("BracedPages$State", bp_T4, 6), "BracedPages$State", rfl, by decide, ly4, Or.inr ⟨_, wd184⟩, Or.inl rfl⟩
theorem fl_BR_230_4 : bp_Fl "BracedPages$BracedReader" 230 4 3 := ⟨("BracedPages$State", bp_T4, 6), "BracedPages$State", rfl, by decide, ly4, Or.inr ⟨_, wd186⟩, Or.inl rfl⟩
theorem fl_BR_233_4 : bp_Fl "BracedPages$BracedReader" 233 4 4 := ⟨("BracedPages$State", bp_T4, 6), "BracedPages$State", rfl, by decide, ly4, Or.inr ⟨_, wd188⟩, Or.inl rfl⟩
theorem fl_BR_236_4 : bp_Fl "BracedPages$BracedReader" 236 4 5 := ⟨("BracedPages$State", bp_T4, 6), "BracedPages$State", rfl, by decide, ly4, Or.inr ⟨_, wd190⟩, Or.inl rfl⟩
theorem fl_BR_242_4 : bp_Fl "BracedPages$BracedReader" 242 4 0 := ⟨("BracedPages$State", bp_T4, 6), "BracedPages$State", rfl, by decide, ly4, Or.inr ⟨_, wd180⟩, Or.inl rfl⟩
theorem fl_BW_9_7 : bp_Fl "BracedPages$BracedWriter" 9 7 0 := ⟨("BracedPages$BracedWriter", bp_T7, 3), "BracedPages$BracedWriter", rfl, by decide, ly7, Or.inl wd343, Or.inl rfl⟩
theorem fl_BW_15_7 : bp_Fl "BracedPages$BracedWriter" 15 7 2 := ⟨("BracedPages$BracedWriter", bp_T7, 3), "BracedPages$BracedWriter", rfl, by decide, ly7, Or.inl wd348, Or.inr wd349⟩
theorem fl_BW_33_7 : bp_Fl "BracedPages$BracedWriter" 33 7 1 := ⟨("BracedPages$BracedWriter", bp_T7, 3), "BracedPages$BracedWriter", rfl, by decide, ly7, Or.inl wd345, Or.inr wd346⟩
theorem fl_CT_11_5 : bp_Fl "BracedPages$ColourTable" 11 5 0 := ⟨("BracedPages$ColourTable", bp_T5, 3), "BracedPages$ColourTable", rfl, by decide, ly5, Or.inl wd213, Or.inl rfl⟩
theorem fl_CT_20_5 : bp_Fl "BracedPages$ColourTable" 20 5 1 := ⟨("BracedPages$ColourTable", bp_T5, 3), "BracedPages$ColourTable", rfl, by decide, ly5, Or.inl wd214, Or.inl rfl⟩
theorem fl_CT_24_5 : bp_Fl "BracedPages$ColourTable" 24 5 2 := ⟨("BracedPages$ColourTable", bp_T5, 3), "BracedPages$ColourTable", rfl, by decide, ly5, Or.inl wd215, Or.inl rfl⟩
theorem fl_Page_9_2 : bp_Fl "BracedPages$Page" 9 2 0 := ⟨("BracedPages$Page", bp_T2, 6), "BracedPages$Page", rfl, by decide, ly2, Or.inl wd145, Or.inl rfl⟩
theorem fl_Page_15_2 : bp_Fl "BracedPages$Page" 15 2 1 := ⟨("BracedPages$Page", bp_T2, 6), "BracedPages$Page", rfl, by decide, ly2, Or.inl wd146, Or.inl rfl⟩
theorem fl_Page_18_2 : bp_Fl "BracedPages$Page" 18 2 2 := ⟨("BracedPages$Page", bp_T2, 6), "BracedPages$Page", rfl, by decide, ly2, Or.inl wd147, Or.inl rfl⟩
theorem fl_Page_26_2 : bp_Fl "BracedPages$Page" 26 2 3 := ⟨("BracedPages$Page", bp_T2, 6), "BracedPages$Page", rfl, by decide, ly2, Or.inl wd148, Or.inl rfl⟩
theorem fl_Page_30_2 : bp_Fl "BracedPages$Page" 30 2 4 := ⟨("BracedPages$Page", bp_T2, 6), "BracedPages$Page", rfl, by decide, ly2, Or.inl wd149, Or.inl rfl⟩
theorem fl_Page_33_2 : bp_Fl "BracedPages$Page" 33 2 5 := ⟨("BracedPages$Page", bp_T2, 6), "BracedPages$Page", rfl, by decide, ly2, Or.inl wd150, Or.inl rfl⟩
theorem fl_Rd_9_3 : bp_Fl "BracedPages$Reader" 9 3 11 := ⟨("BracedPages$BracedReader", bp_T3, 17), "BracedPages$Reader", rfl, by decide, ly3, Or.inl wd234, Or.inl rfl⟩
theorem fl_Rd_9_6 : bp_Fl "BracedPages$Reader" 9 6 10 := ⟨("BracedPages$TaggedReader", bp_T6, 16), "BracedPages$Reader", rfl, by decide, ly6, Or.inl wd234, Or.inl rfl⟩
theorem fl_Rd_15_3 : bp_Fl "BracedPages$Reader" 15 3 12 := ⟨("BracedPages$BracedReader", bp_T3, 17), "BracedPages$Reader", rfl, by decide, ly3, Or.inl wd239, Or.inl rfl⟩
theorem fl_Rd_15_6 : bp_Fl "BracedPages$Reader" 15 6 11 := ⟨("BracedPages$TaggedReader", bp_T6, 16), "BracedPages$Reader", rfl, by decide, ly6, Or.inl wd239, Or.inl rfl⟩
theorem fl_Rd_19_3 : bp_Fl "BracedPages$Reader" 19 3 15 := ⟨("BracedPages$BracedReader", bp_T3, 17), "BracedPages$Reader", rfl, by decide, ly3, Or.inl wd254, Or.inl rfl⟩
theorem fl_Rd_19_6 : bp_Fl "BracedPages$Reader" 19 6 14 := ⟨("BracedPages$TaggedReader", bp_T6, 16), "BracedPages$Reader", rfl, by decide, ly6, Or.inl wd254, Or.inl rfl⟩
theorem fl_Rd_23_3 : bp_Fl "BracedPages$Reader" 23 3 16 := ⟨("BracedPages$BracedReader", bp_T3, 17), "BracedPages$Reader", rfl, by decide, ly3, Or.inl wd255, Or.inl rfl⟩
theorem fl_Rd_23_6 : bp_Fl "BracedPages$Reader" 23 6 15 := ⟨("BracedPages$TaggedReader", bp_T6, 16), "BracedPages$Reader", rfl, by decide, ly6, Or.inl wd255, Or.inl rfl⟩
theorem fl_Rd_31_3 : bp_Fl "BracedPages$Reader" 31 3 13 := ⟨("BracedPages$BracedReader", bp_T3, 17), "BracedPages$Reader", rfl, by decide, ly3, Or.inl wd248, Or.inl rfl⟩
theorem fl_Rd_31_6 : bp_Fl "BracedPages$Reader" 31 6 12 := ⟨("BracedPages$TaggedReader", bp_T6, 16), "BracedPages$Reader", rfl, by decide, ly6, Or.inl wd248, Or.inl rfl⟩
theorem fl_Rd_47_3 : bp_Fl "BracedPages$Reader" 47 3 14 := ⟨("BracedPages$BracedReader", bp_T3, 17), "BracedPages$Reader", rfl, by decide, ly3, Or.inl wd251, Or.inl rfl⟩
theorem fl_Rd_47_6 : bp_Fl "BracedPages$Reader" 47 6 13 := ⟨("BracedPages$TaggedReader", bp_T6, 16), "BracedPages$Reader", rfl, by decide, ly6, Or.inl wd251, Or.inl rfl⟩
theorem fl_Row_9_1 : bp_Fl "BracedPages$Row" 9 1 0 := ⟨("BracedPages$Row", bp_T1, 2), "BracedPages$Row", rfl, by decide, ly1, Or.inl wd129, Or.inl rfl⟩
theorem fl_Row_15_1 : bp_Fl "BracedPages$Row" 15 1 1 := ⟨("BracedPages$Row", bp_T1, 2), "BracedPages$Row", rfl, by decide, ly1, Or.inl wd130, Or.inl rfl⟩
theorem fl_St_14_4 : bp_Fl "BracedPages$State" 14 4 3 := ⟨("BracedPages$State", bp_T4, 6), "BracedPages$State", rfl, by decide, ly4, Or.inl wd185, Or.inl rfl⟩
theorem fl_St_18_4 : bp_Fl "BracedPages$State" 18 4 4 := ⟨("BracedPages$State", bp_T4, 6), "BracedPages$State", rfl, by decide, ly4, Or.inl wd187, Or.inl rfl⟩
theorem fl_St_21_4 : bp_Fl "BracedPages$State" 21 4 5 := ⟨("BracedPages$State", bp_T4, 6), "BracedPages$State", rfl, by decide, ly4, Or.inl wd189, Or.inl rfl⟩
theorem fl_St_24_4 : bp_Fl "BracedPages$State" 24 4 0 := ⟨("BracedPages$State", bp_T4, 6), "BracedPages$State", rfl, by decide, ly4, Or.inl wd179, Or.inl rfl⟩
theorem fl_St_27_4 : bp_Fl "BracedPages$State" 27 4 1 := ⟨("BracedPages$State", bp_T4, 6), "BracedPages$State", rfl, by decide, ly4, Or.inl wd181, Or.inl rfl⟩
theorem fl_St_30_4 : bp_Fl "BracedPages$State" 30 4 2 := ⟨("BracedPages$State", bp_T4, 6), "BracedPages$State", rfl, by decide, ly4, Or.inl wd183, Or.inl rfl⟩
theorem fl_TR_9_6 : bp_Fl "BracedPages$TaggedReader" 9 6 0 := ⟨("BracedPages$TaggedReader", bp_T6, 16), "BracedPages$TaggedReader", rfl, by decide, ly6, Or.inl wd297, Or.inl rfl⟩
theorem fl_TR_19_6 : bp_Fl "BracedPages$TaggedReader" 19 6 10 := ⟨("BracedPages$TaggedReader", bp_T6, 16), "BracedPages$TaggedReader", rfl, by decide, ly6, Or.inl wd237, Or.inr wd238⟩
theorem fl_TR_23_6 : bp_Fl "BracedPages$TaggedReader" 23 6 12 := ⟨("BracedPages$TaggedReader", bp_T6, 16), "BracedPages$TaggedReader", rfl, by decide, ly6, Or.inl wd246, Or.inr wd247⟩
theorem fl_TR_54_6 : bp_Fl "BracedPages$TaggedReader" 54 6 1 := ⟨("BracedPages$TaggedReader", bp_T6, 16), "BracedPages$TaggedReader", rfl, by decide, ly6, Or.inl wd298, Or.inl rfl⟩
theorem fl_TR_57_6 : bp_Fl "BracedPages$TaggedReader" 57 6 3 := ⟨("BracedPages$TaggedReader", bp_T6, 16), "BracedPages$TaggedReader", rfl, by decide, ly6, Or.inl wd300, Or.inl rfl⟩
theorem fl_TR_60_6 : bp_Fl "BracedPages$TaggedReader" 60 6 4 := ⟨("BracedPages$TaggedReader", bp_T6, 16), "BracedPages$TaggedReader", rfl, by decide, ly6, Or.inl wd301, Or.inl rfl⟩
theorem fl_TR_63_6 : bp_Fl "BracedPages$TaggedReader" 63 6 5 := ⟨("BracedPages$TaggedReader", bp_T6, 16), "BracedPages$TaggedReader", rfl, by decide, ly6, Or.inl wd302, Or.inl rfl⟩
theorem fl_TR_66_6 : bp_Fl "BracedPages$TaggedReader" 66 6 6 := ⟨("BracedPages$TaggedReader", bp_T6, 16), "BracedPages$TaggedReader", rfl, by decide, ly6, Or.inl wd303, Or.inl rfl⟩
theorem fl_TR_68_6 : bp_Fl "BracedPages$TaggedReader" 68 6 7 := ⟨("BracedPages$TaggedReader", bp_T6, 16), "BracedPages$TaggedReader", rfl, by decide, ly6, Or.inl wd304, Or.inl rfl⟩
theorem fl_TR_89_6 : bp_Fl "BracedPages$TaggedReader" 89 6 11 := ⟨("BracedPages$TaggedReader", bp_T6, 16), "BracedPages$TaggedReader", rfl, by decide, ly6, Or.inl wd242, Or.inr wd243⟩
theorem fl_TR_119_6 : bp_Fl "BracedPages$TaggedReader" 119 6 13 := ⟨("BracedPages$TaggedReader", bp_T6, 16), "BracedPages$TaggedReader", rfl, by decide, ly6, Or.inl wd252, Or.inr wd253⟩
theorem fl_TR_122_6 : bp_Fl "BracedPages$TaggedReader" 122 6 2 := ⟨("BracedPages$TaggedReader", bp_T6, 16), "BracedPages$TaggedReader", rfl, by decide, ly6, Or.inl wd299, Or.inl rfl⟩
theorem fl_TR_128_6 : bp_Fl "BracedPages$TaggedReader" 128 6 9 := ⟨("BracedPages$TaggedReader", bp_T6, 16), "BracedPages$TaggedReader", rfl, by decide, ly6, Or.inl wd306, Or.inl rfl⟩
theorem fl_TR_131_6 : bp_Fl "BracedPages$TaggedReader" 131 6 8 := ⟨("BracedPages$TaggedReader", bp_T6, 16), "BracedPages$TaggedReader", rfl, by decide, ly6, Or.inl wd305, Or.inl rfl⟩
theorem fl_TW_9_8 : bp_Fl "BracedPages$TaggedWriter" 9 8 1 := ⟨("BracedPages$TaggedWriter", bp_T8, 2), "BracedPages$TaggedWriter", rfl, by decide, ly8, Or.inl wd350, Or.inr wd351⟩
theorem fl_Wr_7_7 : bp_Fl "BracedPages$Writer" 7 7 1 := ⟨("BracedPages$BracedWriter", bp_T7, 3), "BracedPages$Writer", rfl, by decide, ly7, Or.inl wd344, Or.inl rfl⟩
theorem fl_Wr_7_8 : bp_Fl "BracedPages$Writer" 7 8 0 := ⟨("BracedPages$TaggedWriter", bp_T8, 2), "BracedPages$Writer", rfl, by decide, ly8, Or.inl wd344, Or.inl rfl⟩
theorem fl_Wr_13_7 : bp_Fl "BracedPages$Writer" 13 7 2 := ⟨("BracedPages$BracedWriter", bp_T7, 3), "BracedPages$Writer", rfl, by decide, ly7, Or.inl wd347, Or.inl rfl⟩
theorem fl_Wr_13_8 : bp_Fl "BracedPages$Writer" 13 8 1 := ⟨("BracedPages$TaggedWriter", bp_T8, 2), "BracedPages$Writer", rfl, by decide, ly8, Or.inl wd347, Or.inl rfl⟩
theorem fl_Mo_7_9 : bp_Fl "BracedPagesModel" 7 9 2 := ⟨("BracedPagesModel", bp_T9, 34), "BracedPagesModel", rfl, by decide, ly9, Or.inl wd1313, Or.inl rfl⟩
theorem fl_Mo_13_9 : bp_Fl "BracedPagesModel" 13 9 4 := ⟨("BracedPagesModel", bp_T9, 34), "BracedPagesModel", rfl, by decide, ly9, Or.inl wd1315, Or.inl rfl⟩
theorem fl_Mo_17_9 : bp_Fl "BracedPagesModel" 17 9 5 := ⟨("BracedPagesModel", bp_T9, 34), "BracedPagesModel", rfl, by decide, ly9, Or.inl wd1316, Or.inl rfl⟩
theorem fl_Mo_21_9 : bp_Fl "BracedPagesModel" 21 9 6 := ⟨("BracedPagesModel", bp_T9, 34), "BracedPagesModel", rfl, by decide, ly9, Or.inl wd1317, Or.inl rfl⟩
theorem fl_Mo_24_9 : bp_Fl "BracedPagesModel" 24 9 7 := ⟨("BracedPagesModel", bp_T9, 34), "BracedPagesModel", rfl, by decide, ly9, Or.inl wd1318, Or.inl rfl⟩
theorem fl_Mo_27_9 : bp_Fl "BracedPagesModel" 27 9 8 := ⟨("BracedPagesModel", bp_T9, 34), "BracedPagesModel", rfl, by decide, ly9, Or.inl wd1319, Or.inl rfl⟩
theorem fl_Mo_30_9 : bp_Fl "BracedPagesModel" 30 9 9 := ⟨("BracedPagesModel", bp_T9, 34), "BracedPagesModel", rfl, by decide, ly9, Or.inl wd1320, Or.inl rfl⟩
theorem fl_Mo_33_9 : bp_Fl "BracedPagesModel" 33 9 10 := ⟨("BracedPagesModel", bp_T9, 34), "BracedPagesModel", rfl, by decide, ly9, Or.inl wd1321, Or.inl rfl⟩
theorem fl_Mo_36_9 : bp_Fl "BracedPagesModel" 36 9 11 := ⟨("BracedPagesModel", bp_T9, 34), "BracedPagesModel", rfl, by decide, ly9, Or.inl wd1322, Or.inl rfl⟩
theorem fl_Mo_39_9 : bp_Fl "BracedPagesModel" 39 9 15 := ⟨("BracedPagesModel", bp_T9, 34), "BracedPagesModel", rfl, by decide, ly9, Or.inl wd1326, Or.inl rfl⟩
theorem fl_Mo_43_9 : bp_Fl "BracedPagesModel" 43 9 21 := ⟨("BracedPagesModel", bp_T9, 34), "BracedPagesModel", rfl, by decide, ly9, Or.inl wd1332, Or.inl rfl⟩
theorem fl_Mo_46_9 : bp_Fl "BracedPagesModel" 46 9 25 := ⟨("BracedPagesModel", bp_T9, 34), "BracedPagesModel", rfl, by decide, ly9, Or.inl wd1336, Or.inl rfl⟩
theorem fl_Mo_49_9 : bp_Fl "BracedPagesModel" 49 9 26 := ⟨("BracedPagesModel", bp_T9, 34), "BracedPagesModel", rfl, by decide, ly9, Or.inl wd1337, Or.inl rfl⟩
theorem fl_Mo_52_9 : bp_Fl "BracedPagesModel" 52 9 0 := ⟨("BracedPagesModel", bp_T9, 34), "BracedPagesModel", rfl, by decide, ly9, Or.inl wd1311, Or.inl rfl⟩
theorem fl_Mo_63_9 : bp_Fl "BracedPagesModel" 63 9 1 := ⟨("BracedPagesModel", bp_T9, 34), "BracedPagesModel", rfl, by decide, ly9, Or.inl wd1312, Or.inl rfl⟩
theorem fl_Mo_66_9 : bp_Fl "BracedPagesModel" 66 9 3 := ⟨("BracedPagesModel", bp_T9, 34), "BracedPagesModel", rfl, by decide, ly9, Or.inl wd1314, Or.inl rfl⟩
theorem fl_Mo_69_9 : bp_Fl "BracedPagesModel" 69 9 13 := ⟨("BracedPagesModel", bp_T9, 34), "BracedPagesModel", rfl, by decide, ly9, Or.inl wd1324, Or.inl rfl⟩
theorem fl_Mo_72_9 : bp_Fl "BracedPagesModel" 72 9 14 := ⟨("BracedPagesModel", bp_T9, 34), "BracedPagesModel", rfl, by decide, ly9, Or.inl wd1325, Or.inl rfl⟩
theorem fl_Mo_90_9 : bp_Fl "BracedPagesModel" 90 9 12 := ⟨("BracedPagesModel", bp_T9, 34), "BracedPagesModel", rfl, by decide, ly9, Or.inl wd1323, Or.inl rfl⟩
theorem fl_Mo_93_9 : bp_Fl "BracedPagesModel" 93 9 20 := ⟨("BracedPagesModel", bp_T9, 34), "BracedPagesModel", rfl, by decide, ly9, Or.inl wd1331, Or.inl rfl⟩
theorem fl_Mo_96_9 : bp_Fl "BracedPagesModel" 96 9 16 := ⟨("BracedPagesModel", bp_T9, 34), "BracedPagesModel", rfl, by decide, ly9, Or.inl wd1327, Or.inl rfl⟩
theorem fl_Mo_99_9 : bp_Fl "BracedPagesModel" 99 9 17 := ⟨("BracedPagesModel", bp_T9, 34), "BracedPagesModel", rfl, by decide, ly9, Or.inl wd1328, Or.inl rfl⟩
theorem fl_Mo_102_9 : bp_Fl "BracedPagesModel" 102 9 18 := ⟨("BracedPagesModel", bp_T9, 34), "BracedPagesModel", rfl, by decide, ly9, Or.inl wd1329, Or.inl rfl⟩
theorem fl_Mo_105_9 : bp_Fl "BracedPagesModel" 105 9 19 := ⟨("BracedPagesModel", bp_T9, 34), "BracedPagesModel", rfl, by decide, ly9, Or.inl wd1330, Or.inl rfl⟩
theorem fl_Mo_108_9 : bp_Fl "BracedPagesModel" 108 9 22 := ⟨("BracedPagesModel", bp_T9, 34), "BracedPagesModel", rfl, by decide, ly9, Or.inl wd1333, Or.inl rfl⟩
theorem fl_Mo_122_9 : bp_Fl "BracedPagesModel" 122 9 23 := ⟨("BracedPagesModel", bp_T9, 34), "BracedPagesModel", rfl, by decide, ly9, Or.inl wd1334, Or.inl rfl⟩
theorem fl_Mo_126_9 : bp_Fl "BracedPagesModel" 126 9 24 := ⟨("BracedPagesModel", bp_T9, 34), "BracedPagesModel", rfl, by decide, ly9, Or.inl wd1335, Or.inl rfl⟩
theorem fl_Mo_179_9 : bp_Fl "BracedPagesModel" 179 9 27 := ⟨("BracedPagesModel", bp_T9, 34), "BracedPagesModel", rfl, by decide, ly9, Or.inl wd1338, Or.inl rfl⟩
theorem fl_Mo_182_9 : bp_Fl "BracedPagesModel" 182 9 28 := ⟨("BracedPagesModel", bp_T9, 34), "BracedPagesModel", rfl, by decide, ly9, Or.inl wd1339, Or.inl rfl⟩
theorem fl_Mo_185_9 : bp_Fl "BracedPagesModel" 185 9 29 := ⟨("BracedPagesModel", bp_T9, 34), "BracedPagesModel", rfl, by decide, ly9, Or.inl wd1340, Or.inl rfl⟩
theorem fl_Mo_188_9 : bp_Fl "BracedPagesModel" 188 9 30 := ⟨("BracedPagesModel", bp_T9, 34), "BracedPagesModel", rfl, by decide, ly9, Or.inl wd1341, Or.inl rfl⟩
theorem fl_Mo_267_9 : bp_Fl "BracedPagesModel" 267 9 31 := ⟨("BracedPagesModel", bp_T9, 34), "BracedPagesModel", rfl, by decide, ly9, Or.inl wd1342, Or.inl rfl⟩
theorem fl_Mo_270_9 : bp_Fl "BracedPagesModel" 270 9 33 := ⟨("BracedPagesModel", bp_T9, 34), "BracedPagesModel", rfl, by decide, ly9, Or.inl wd1344, Or.inl rfl⟩
theorem fl_Mo_273_9 : bp_Fl "BracedPagesModel" 273 9 32 := ⟨("BracedPagesModel", bp_T9, 34), "BracedPagesModel", rfl, by decide, ly9, Or.inl wd1343, Or.inl rfl⟩
theorem nw_Law_8 : bp_Nw "BracedPagesLaw" 8 0 9 := ⟨("BracedPages", bp_T0, 9), rfl, ly0, wd115, wd116, wd89, by decide +kernel⟩
theorem nw_X_7 : bp_Nw "BracedPages" 7 1 2 := ⟨("BracedPages$Row", bp_T1, 2), rfl, ly1, wd123, wd124, wd90, by decide +kernel⟩
theorem nw_X_21 : bp_Nw "BracedPages" 21 2 6 := ⟨("BracedPages$Page", bp_T2, 6), rfl, ly2, wd137, wd138, wd91, by decide +kernel⟩
theorem nw_Page_21 : bp_Nw "BracedPages$Page" 21 1 2 := ⟨("BracedPages$Row", bp_T1, 2), rfl, ly1, wd143, wd124, wd90, by decide +kernel⟩
theorem nw_X_31 : bp_Nw "BracedPages" 31 3 17 := ⟨("BracedPages$BracedReader", bp_T3, 17), rfl, ly3, wd164, wd165, wd93, by decide +kernel⟩
theorem nw_BR_9 : bp_Nw "BracedPages$BracedReader" 9 4 6 := ⟨("BracedPages$State", bp_T4, 6), rfl, ly4, wd173, wd174, wd94, by decide +kernel⟩
theorem nw_BR_24 : bp_Nw "BracedPages$BracedReader" 24 5 3 := ⟨("BracedPages$ColourTable", bp_T5, 3), rfl, ly5, wd205, wd206, wd95, by decide +kernel⟩
theorem nw_CT_15 : bp_Nw "BracedPages$ColourTable" 15 1 2 := ⟨("BracedPages$Row", bp_T1, 2), rfl, ly1, wd211, wd124, wd90, by decide +kernel⟩
theorem nw_X_40 : bp_Nw "BracedPages" 40 6 16 := ⟨("BracedPages$TaggedReader", bp_T6, 16), rfl, ly6, wd291, wd292, wd96, by decide +kernel⟩
theorem nw_X_46 : bp_Nw "BracedPages" 46 7 3 := ⟨("BracedPages$BracedWriter", bp_T7, 3), rfl, ly7, wd334, wd335, wd98, by decide +kernel⟩
theorem nw_X_55 : bp_Nw "BracedPages" 55 8 2 := ⟨("BracedPages$TaggedWriter", bp_T8, 2), rfl, ly8, wd359, wd360, wd99, by decide +kernel⟩
theorem nw_Law_13 : bp_Nw "BracedPagesLaw" 13 10 6 := ⟨("java/lang/IllegalArgumentException", bp_T10, 0), rfl, ly10, wd1089, wd1103, wd104, by decide +kernel⟩
theorem nw_Law_15 : bp_Nw "BracedPagesLaw" 15 11 6 := ⟨("java/lang/UnsupportedOperationException", bp_T11, 0), rfl, ly11, wd1090, wd1172, wd105, by decide +kernel⟩
theorem nw_X_73 : bp_Nw "BracedPages" 73 10 6 := ⟨("java/lang/IllegalArgumentException", bp_T10, 0), rfl, ly10, wd1102, wd1103, wd104, by decide +kernel⟩
theorem nw_X_84 : bp_Nw "BracedPages" 84 11 6 := ⟨("java/lang/UnsupportedOperationException", bp_T11, 0), rfl, ly11, wd1171, wd1172, wd105, by decide +kernel⟩
theorem nw_Law_29 : bp_Nw "BracedPagesLaw" 29 12 6 := ⟨("java/lang/IllegalStateException", bp_T12, 0), rfl, ly12, wd1211, wd1217, wd113, by decide +kernel⟩
theorem nw_X_136 : bp_Nw "BracedPages" 136 12 6 := ⟨("java/lang/IllegalStateException", bp_T12, 0), rfl, ly12, wd1216, wd1217, wd113, by decide +kernel⟩
theorem nw_Law_34 : bp_Nw "BracedPagesLaw" 34 13 6 := ⟨("java/util/NoSuchElementException", bp_T13, 0), rfl, ly13, wd1248, wd1255, wd114, by decide +kernel⟩
theorem nw_X_165 : bp_Nw "BracedPages" 165 13 6 := ⟨("java/util/NoSuchElementException", bp_T13, 0), rfl, ly13, wd1254, wd1255, wd114, by decide +kernel⟩
theorem nw_Law_44 : bp_Nw "BracedPagesLaw" 44 9 34 := ⟨("BracedPagesModel", bp_T9, 34), rfl, ly9, wd1305, wd1306, wd100, by decide +kernel⟩
