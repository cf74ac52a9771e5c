set_option maxRecDepth 20000 in
theorem wsL_law_q17 : ∀ w ∈ wsL_law0_r17, w ∈ lw_tbl := zIn_r _ [509, 510, 511, 512, 513, 514, 680, 681, 682, 588, 589, 590, 591, 592, 593, 594, 595, 596, 597, 683, 684, 685, 554, 555] (by decide +kernel)
set_option maxRecDepth 20000 in
theorem wsL_law_q18 : ∀ w ∈ wsL_law0_r18, w ∈ lw_tbl := zIn_r _ [556, 557, 558, 559, 560, 561, 562, 563, 564, 566, 23, 567, 686, 687, 688, 539, 540, 541, 542, 543, 544, 545, 546, 547] (by decide +kernel)
set_option maxRecDepth 20000 in
theorem wsL_law_q19 : ∀ w ∈ wsL_law0_r19, w ∈ lw_tbl := zIn_r _ [548, 549, 551, 22, 552, 689, 690, 691, 569, 570, 571, 572, 573, 574, 575, 576, 577, 578, 580, 581, 582, 583, 584, 585] (by decide +kernel)
set_option maxRecDepth 20000 in
theorem wsL_law_q20 : ∀ w ∈ wsL_law0_r20, w ∈ lw_tbl := zIn_r _ [586, 692, 693, 694, 695, 696, 697, 698, 699, 701, 24, 702, 704, 705, 706, 707, 708, 709, 710, 711, 712, 713, 518, 519] (by decide +kernel)
