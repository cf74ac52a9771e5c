set_option maxRecDepth 20000 in
theorem iq_0 : GoodIn wsL_law [Cond.code yL_isDone cL_isDone 10 (some .boolean)] := fun w h => by
  rw [List.mem_singleton.mp h]
  exact ⟨List.mem_of_getElem? (i := 155) rfl, good_of_word rfl⟩
set_option maxRecDepth 20000 in
theorem iq_1 : GoodIn wsL_law wsL_isDone_r1 := goodIn_r _ [156, 157, 40, 158, 159, 160, 161, 162, 42, 43, 44, 2, 45, 46, 47, 48, 49, 50, 51, 52, 53, 54, 55, 56] (by decide +kernel) (by decide +kernel)
set_option maxRecDepth 20000 in
theorem iq_2 : GoodIn wsL_law wsL_isDone_r2 := goodIn_r _ [57, 10, 163, 164, 165, 61, 62, 63, 64, 65, 66, 67, 68, 69, 70, 71, 72, 73, 18, 74, 75, 76, 77, 166] (by decide +kernel) (by decide +kernel)
set_option maxRecDepth 20000 in
theorem iq_3 : GoodIn wsL_law wsL_isDone_r3 := goodIn_r _ [167, 168, 89, 90, 91, 92, 93, 97, 98, 99, 100, 101, 169, 170, 171, 172, 173, 174, 175, 176, 177, 178, 179, 9] (by decide +kernel) (by decide +kernel)
set_option maxRecDepth 20000 in
theorem iq_4 : GoodIn wsL_law wsL_isDone_r4 := goodIn_r _ [17, 180, 181, 182, 183, 83, 130, 131, 132, 25, 26, 27, 28, 7, 8, 29, 30, 31, 32, 33, 34, 35, 36, 37] (by decide +kernel) (by decide +kernel)
set_option maxRecDepth 20000 in
theorem iq_5 : GoodIn wsL_law wsL_isDone_r5 := goodIn_r _ [184, 185, 186, 187, 129, 188, 189, 190, 78, 79, 80, 81, 82, 84, 85, 86, 87, 88, 148, 149, 150, 151, 152, 102] (by decide +kernel) (by decide +kernel)
