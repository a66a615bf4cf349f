set_option maxRecDepth 20000 in
theorem ggL_law_X6_next : GoodIn wsL_law wsX6_next := goodIn_r _ [484, 17, 35, 36, 29, 34, 291, 292, 293, 28, 294, 69, 295, 188, 78, 189, 63, 296, 297, 298, 16, 299, 45, 300, 223, 224, 225, 44, 132, 133, 134, 135, 301, 302, 303, 304, 71, 70, 305, 306, 307, 24, 308, 57, 309, 310, 311, 312, 313, 314, 315, 316, 317, 318, 319, 320, 321, 322, 62, 323, 324, 325, 326, 327, 328, 329, 330, 331, 332, 333, 334, 335, 77, 79, 336, 337, 338, 339, 340, 341, 342, 343, 344, 168, 169, 170, 41, 345, 346, 347, 348, 349, 350, 351, 352, 353, 354, 355, 356, 357, 358, 66, 67, 65, 359, 360, 361, 362, 68, 363, 219, 220, 221, 43, 364, 365, 366, 367, 64, 368, 369, 370, 371, 372, 373, 374, 375, 380, 381, 382, 383, 602, 603, 604, 605, 606, 607, 608, 609, 640, 641, 642, 643, 650, 651, 652, 653, 654, 655, 656, 657, 658, 659, 644, 645, 646, 647, 648, 649, 660, 661, 662, 663, 664] (by decide +kernel) (by decide +kernel)
set_option maxRecDepth 20000 in
theorem gL_law_X6_next : GoodIn wsL_law (wsV RL 84 RX6 yX6_next wsX6_next) := goodIn_app (goodIn_of _ (by decide +kernel)) ggL_law_X6_next
set_option maxRecDepth 20000 in
theorem ggL_law_X7_next : GoodIn wsL_law wsX7_next := goodIn_r _ [488, 140, 147, 480, 479, 478, 100, 393, 394, 395, 5, 396, 397, 398, 399, 400, 238, 401, 402, 403, 404, 405, 406, 407, 408, 409, 410, 411, 412, 413, 414, 415, 416, 417, 418, 419, 420, 421, 422, 423, 98, 92, 424, 425, 426, 427, 91, 428, 429, 430, 431, 432, 433, 434, 435, 102, 103, 105, 90, 104, 101, 436, 437, 438, 439, 440, 441, 442, 443, 444, 99, 610, 611, 612, 613, 614, 615, 616, 617, 618, 619, 620, 621, 622, 623, 624, 625, 626, 627, 628, 629, 630, 631, 632, 633, 634, 635, 636, 637, 638, 639] (by decide +kernel) (by decide +kernel)
set_option maxRecDepth 20000 in
theorem gL_law_X7_next : GoodIn wsL_law (wsV RL 87 RX7 yX7_next wsX7_next) := goodIn_app (goodIn_of _ (by decide +kernel)) ggL_law_X7_next
set_option maxRecDepth 20000 in
theorem ggL_law_X6_at : GoodIn wsL_law wsX6_at := goodIn_r _ [492, 34, 35, 36, 602, 603, 604, 605, 606, 607, 608, 609] (by decide +kernel) (by decide +kernel)
set_option maxRecDepth 20000 in
theorem gL_law_X6_at : GoodIn wsL_law (wsV RL 88 RX6 yX6_at wsX6_at) := goodIn_app (goodIn_of _ (by decide +kernel)) ggL_law_X6_at
set_option maxRecDepth 20000 in
theorem ggL_law_X7_at : GoodIn wsL_law wsX7_at := goodIn_r _ [496, 140, 478, 479, 480, 610, 611, 612, 613, 614, 615, 616, 617, 618, 619, 620, 621, 622, 623, 624, 625, 626, 627, 628, 629, 630, 631, 632, 633, 634, 635, 636, 637, 638, 639] (by decide +kernel) (by decide +kernel)
set_option maxRecDepth 20000 in
theorem gL_law_X7_at : GoodIn wsL_law (wsV RL 92 RX7 yX7_at wsX7_at) := goodIn_app (goodIn_of _ (by decide +kernel)) ggL_law_X7_at
set_option maxRecDepth 20000 in
theorem ggL_law_X6_act : GoodIn wsL_law wsX6_act := goodIn_r _ [500, 17, 25, 21, 33, 167, 168, 169, 16, 170, 41, 132, 133, 134, 135, 45, 288, 289, 2, 290, 501, 502, 503, 504, 505, 506, 507, 508, 509, 510, 511, 512, 513, 514, 306, 307, 24, 308, 57, 515, 310, 311, 312, 313, 314, 315, 316, 317, 318, 516, 517, 518, 519, 328, 329, 330, 520, 521, 522, 523, 524, 525, 32, 526, 81, 82, 83, 84, 527, 528, 529, 530, 531, 532, 533, 80, 198, 191, 192, 193, 534, 195, 196, 197, 535, 536, 537, 538, 539, 540, 541, 542, 543, 544, 545, 546, 547, 548, 172, 173, 174, 549, 550, 551, 552, 553, 554, 555, 556, 557, 602, 603, 604, 605, 606, 607, 608, 609, 644, 645, 646, 647, 648, 660, 661, 662, 663, 664, 640, 641, 642, 643, 649] (by decide +kernel) (by decide +kernel)
set_option maxRecDepth 20000 in
theorem gL_law_X6_act : GoodIn wsL_law (wsV RL 93 RX6 yX6_act wsX6_act) := goodIn_app (goodIn_of _ (by decide +kernel)) ggL_law_X6_act
set_option maxRecDepth 20000 in
theorem ggL_law_X7_act : GoodIn wsL_law wsX7_act := goodIn_r _ [561, 140, 392, 146, 562, 563, 564, 565, 89, 106, 92, 566, 93, 567, 94, 568, 107, 96, 179, 180, 181, 5, 182, 147, 148, 149, 150, 569, 570, 571, 572, 397, 398, 399, 400, 238, 401, 402, 403, 404, 405, 406, 407, 408, 409, 410, 411, 416, 417, 418, 419, 573, 574, 575, 576, 108, 577, 578, 579, 580, 610, 611, 612, 613, 614, 615, 616, 617, 618, 619, 620, 621, 622, 623, 624, 625, 626, 627, 628, 629, 630, 631, 632, 633, 634, 635, 636, 637, 638, 639] (by decide +kernel) (by decide +kernel)
set_option maxRecDepth 20000 in
theorem gL_law_X7_act : GoodIn wsL_law (wsV RL 96 RX7 yX7_act wsX7_act) := goodIn_app (goodIn_of _ (by decide +kernel)) ggL_law_X7_act
set_option maxRecDepth 20000 in
theorem ggL_law_X6_out : GoodIn wsL_law wsX6_out := goodIn_r _ [584, 33, 190, 191, 192, 32, 193, 84, 80, 585, 531, 532, 533, 198, 602, 603, 604, 605, 606, 607, 608, 609, 660, 661, 662, 663, 664] (by decide +kernel) (by decide +kernel)
set_option maxRecDepth 20000 in
theorem gL_law_X6_out : GoodIn wsL_law (wsV RL 97 RX6 yX6_out wsX6_out) := goodIn_app (goodIn_of _ (by decide +kernel)) ggL_law_X6_out
set_option maxRecDepth 20000 in
theorem ggL_law_X7_out : GoodIn wsL_law wsX7_out := goodIn_r _ [589, 140, 106, 566, 567, 568, 107, 148, 149, 5, 150, 610, 611, 612, 613, 614, 615, 616, 617, 618, 619, 620, 621, 622, 623, 624, 625, 626, 627, 628, 629, 630, 631, 632, 633, 634, 635, 636, 637, 638, 639] (by decide +kernel) (by decide +kernel)
set_option maxRecDepth 20000 in
theorem gL_law_X7_out : GoodIn wsL_law (wsV RL 100 RX7 yX7_out wsX7_out) := goodIn_app (goodIn_of _ (by decide +kernel)) ggL_law_X7_out
set_option maxRecDepth 20000 in
theorem ggL_law_X6_like : GoodIn wsL_law wsX6_like := goodIn_r _ [593, 17, 33, 167, 168, 169, 16, 170, 41, 132, 133, 134, 135, 45, 594, 595, 596, 32, 597, 81, 82, 83, 84, 556, 531, 532, 533, 80, 198, 191, 192, 193, 602, 603, 604, 605, 606, 607, 608, 609, 640, 641, 642, 643, 660, 661, 662, 663, 664] (by decide +kernel) (by decide +kernel)
set_option maxRecDepth 20000 in
theorem gL_law_X6_like : GoodIn wsL_law (wsV RL 101 RX6 yX6_like wsX6_like) := goodIn_app (goodIn_of _ (by decide +kernel)) ggL_law_X6_like
set_option maxRecDepth 20000 in
theorem ggL_law_X7_like : GoodIn wsL_law wsX7_like := goodIn_r _ [601, 140, 106, 89, 566, 92, 567, 93, 568, 94, 107, 96, 179, 180, 181, 5, 182, 147, 148, 149, 150, 610, 611, 612, 613, 614, 615, 616, 617, 618, 619, 620, 621, 622, 623, 624, 625, 626, 627, 628, 629, 630, 631, 632, 633, 634, 635, 636, 637, 638, 639] (by decide +kernel) (by decide +kernel)
set_option maxRecDepth 20000 in
theorem gL_law_X7_like : GoodIn wsL_law (wsV RL 104 RX7 yX7_like wsX7_like) := goodIn_app (goodIn_of _ (by decide +kernel)) ggL_law_X7_like
