set_option maxRecDepth 20000 in
theorem wsL_law_q21 : ∀ w ∈ wsL_law0_r21, w ∈ lw_tbl := zIn_r _ [562, 563, 564, 565, 566, 938, 939, 940, 941, 567, 568, 569, 570, 571, 572, 573, 574, 576, 22, 577, 942, 943, 944, 945] (by decide +kernel)
set_option maxRecDepth 20000 in
theorem wsL_law_q22 : ∀ w ∈ wsL_law0_r22, w ∈ lw_tbl := zIn_r _ [579, 580, 581, 582, 583, 584, 585, 586, 587, 588, 589, 591, 23, 592, 946, 947, 948, 949, 950, 952, 47, 953, 954, 956] (by decide +kernel)
set_option maxRecDepth 20000 in
theorem wsL_law_q23 : ∀ w ∈ wsL_law0_r23, w ∈ lw_tbl := zIn_r _ [48, 957, 594, 595, 596, 597, 598, 599, 600, 958, 959, 960, 961, 601, 602, 603, 604, 605, 606, 607, 962, 963, 964, 965] (by decide +kernel)
set_option maxRecDepth 20000 in
theorem wsL_law_q24 : ∀ w ∈ wsL_law0_r24, w ∈ lw_tbl := zIn_r _ [609, 610, 611, 612, 613, 614, 615, 966, 967, 968, 969, 617, 618, 619, 620, 621, 622, 623, 970, 971, 972, 973, 624, 625] (by decide +kernel)
