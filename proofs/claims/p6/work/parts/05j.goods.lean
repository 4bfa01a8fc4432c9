set_option maxRecDepth 20000 in
theorem ggL_law_L_poke : GoodIn wsL_law wsL_poke := goodIn_ca (goodIn_pq _ [129, 69, 76, 114, 90] [125, 61, 126, 127, 128, 2, 16, 72, 66, 67, 68, 70, 71, 73, 74, 75, 15, 77, 111, 112, 113, 25, 130, 88, 89, 611, 612, 613, 631, 632, 633] rfl (by decide +kernel) (by decide +kernel)) (goodIn_sub (fun _ h => List.mem_append_left _ (List.mem_append_right _ h)) (by decide +kernel))
set_option maxRecDepth 20000 in
theorem gL_law_L_poke : GoodIn wsL_law (va_wsS RL 52 yL_poke wsL_poke) := goodIn_app (goodIn_of _ (by decide +kernel)) ggL_law_L_poke
set_option maxRecDepth 20000 in
theorem ggL_law_X5_poke : GoodIn wsL_law wsX5_poke := goodIn_pq _ [134, 99, 122, 103] [95, 96, 97, 98, 5, 119, 120, 121, 53, 100, 101, 102, 614, 615, 616, 617, 618, 619, 620, 621, 622, 623, 624, 625, 626, 627, 628, 629, 630] rfl (by decide +kernel) (by decide +kernel)
set_option maxRecDepth 20000 in
theorem gL_law_X5_poke : GoodIn wsL_law (wsV RL 55 RX5 yX5_poke wsX5_poke) := goodIn_app (goodIn_of _ (by decide +kernel)) ggL_law_X5_poke
set_option maxRecDepth 20000 in
theorem ggL_law_L_register : GoodIn wsL_law wsL_register := goodIn_ca (goodIn_pq _ [141, 145] [137, 61, 138, 139, 140, 2, 20, 142, 143, 144, 70, 71, 611, 612, 613, 634, 635, 640, 641, 642, 643] rfl (by decide +kernel) (by decide +kernel)) (goodIn_sub (fun _ h => List.mem_append_left _ (List.mem_append_right _ h)) (by decide +kernel))
set_option maxRecDepth 20000 in
theorem gL_law_L_register : GoodIn wsL_law (va_wsS RL 56 yL_register wsL_register) := goodIn_app (goodIn_of _ (by decide +kernel)) ggL_law_L_register
set_option maxRecDepth 20000 in
theorem ggL_law_X5_register : GoodIn wsL_law wsX5_register := goodIn_pq _ [149] [95, 54, 614, 615, 616, 617, 618, 619, 620, 621, 622, 623, 624, 625, 626, 627, 628, 629, 630] rfl (by decide +kernel) (by decide +kernel)
set_option maxRecDepth 20000 in
theorem gL_law_X5_register : GoodIn wsL_law (wsV RL 58 RX5 yX5_register wsX5_register) := goodIn_app (goodIn_of _ (by decide +kernel)) ggL_law_X5_register
set_option maxRecDepth 20000 in
theorem ggL_law_L_put : GoodIn wsL_law wsL_put := goodIn_ca (goodIn_pq _ [156, 145] [152, 61, 153, 154, 155, 2, 20, 72, 142, 143, 144, 70, 71, 611, 612, 613, 634, 635, 640, 641, 642, 643] rfl (by decide +kernel) (by decide +kernel)) (goodIn_sub (fun _ h => List.mem_append_left _ (List.mem_append_right _ h)) (by decide +kernel))
set_option maxRecDepth 20000 in
theorem gL_law_L_put : GoodIn wsL_law (va_wsS RL 59 yL_put wsL_put) := goodIn_app (goodIn_of _ (by decide +kernel)) ggL_law_L_put
set_option maxRecDepth 20000 in
theorem ggL_law_X5_put : GoodIn wsL_law wsX5_put := goodIn_pq _ [160] [95, 54, 96, 614, 615, 616, 617, 618, 619, 620, 621, 622, 623, 624, 625, 626, 627, 628, 629, 630] rfl (by decide +kernel) (by decide +kernel)
set_option maxRecDepth 20000 in
theorem gL_law_X5_put : GoodIn wsL_law (wsV RL 62 RX5 yX5_put wsX5_put) := goodIn_app (goodIn_of _ (by decide +kernel)) ggL_law_X5_put
set_option maxRecDepth 20000 in
theorem ggL_law_X5_thrown : GoodIn wsL_law wsX5_thrown := goodIn_pq _ [164] [95, 614, 615, 616, 617, 618, 619, 620, 621, 622, 623, 624, 625, 626, 627, 628, 629, 630] rfl (by decide +kernel) (by decide +kernel)
set_option maxRecDepth 20000 in
theorem gL_law_X5_thrown : GoodIn wsL_law (wsV RL 63 RX5 yX5_thrown wsX5_thrown) := goodIn_app (goodIn_of _ (by decide +kernel)) ggL_law_X5_thrown
set_option maxRecDepth 20000 in
theorem ggL_law_X4_flags : GoodIn wsL_law wsX4_flags := goodIn_pq _ [168, 172] [20, 169, 170, 171, 33, 173, 174, 175, 176, 611, 612, 613, 634, 635, 636, 637, 638, 639] rfl (by decide +kernel) (by decide +kernel)
set_option maxRecDepth 20000 in
theorem gL_law_X4_flags : GoodIn wsL_law (wsV RL 67 RX4 yX4_flags wsX4_flags) := goodIn_app (goodIn_of _ (by decide +kernel)) ggL_law_X4_flags
set_option maxRecDepth 20000 in
theorem ggL_law_X5_flags : GoodIn wsL_law wsX5_flags := goodIn_pq _ [180] [95, 181, 614, 615, 616, 617, 618, 619, 620, 621, 622, 623, 624, 625, 626, 627, 628, 629, 630] rfl (by decide +kernel) (by decide +kernel)
set_option maxRecDepth 20000 in
theorem gL_law_X5_flags : GoodIn wsL_law (wsV RL 70 RX5 yX5_flags wsX5_flags) := goodIn_app (goodIn_of _ (by decide +kernel)) ggL_law_X5_flags
set_option maxRecDepth 20000 in
theorem ggL_law_X4_flag : GoodIn wsL_law wsX4_flag := goodIn_pq _ [185, 189] [20, 186, 187, 188, 33, 173, 174, 175, 176, 611, 612, 613, 634, 635, 636, 637, 638, 639] rfl (by decide +kernel) (by decide +kernel)
set_option maxRecDepth 20000 in
theorem gL_law_X4_flag : GoodIn wsL_law (wsV RL 71 RX4 yX4_flag wsX4_flag) := goodIn_app (goodIn_of _ (by decide +kernel)) ggL_law_X4_flag
set_option maxRecDepth 20000 in
theorem ggL_law_X5_flag : GoodIn wsL_law wsX5_flag := goodIn_pq _ [193] [95, 181, 614, 615, 616, 617, 618, 619, 620, 621, 622, 623, 624, 625, 626, 627, 628, 629, 630] rfl (by decide +kernel) (by decide +kernel)
set_option maxRecDepth 20000 in
theorem gL_law_X5_flag : GoodIn wsL_law (wsV RL 75 RX5 yX5_flag wsX5_flag) := goodIn_app (goodIn_of _ (by decide +kernel)) ggL_law_X5_flag
set_option maxRecDepth 20000 in
theorem ggL_law_L_run : GoodIn wsL_law wsL_run := goodIn_ca (goodIn_pq _ [201, 208, 212, 172, 222, 227, 231, 76, 114, 238, 241, 246, 249, 254, 257, 261, 265, 270, 274, 278, 280, 285, 289, 293, 297, 301, 305, 309, 313, 318, 322, 326, 328, 333, 337, 341, 344, 348, 353, 357, 361, 189, 366, 370, 374, 378, 382, 386, 389, 395, 400, 404, 408, 412, 415, 419, 423] [196, 197, 198, 199, 200, 2, 202, 203, 204, 20, 205, 206, 207, 19, 38, 34, 209, 210, 211, 37, 46, 47, 213, 214, 215, 216, 217, 218, 170, 171, 33, 173, 174, 175, 176, 219, 220, 221, 223, 224, 225, 226, 228, 229, 230, 232, 48, 233, 74, 75, 15, 77, 234, 112, 113, 25, 235, 236, 237, 239, 240, 242, 243, 244, 245, 247, 248, 250, 251, 252, 253, 255, 256, 258, 259, 260, 262, 263, 264, 266, 267, 268, 269, 271, 272, 273, 275, 276, 277, 279, 281, 282, 283, 284, 286, 287, 288, 290, 291, 292, 294, 295, 296, 298, 299, 300, 302, 303, 304, 306, 307, 308, 310, 311, 312, 314, 26, 315, 316, 317, 319, 320, 321, 323, 324, 325, 327, 329, 330, 331, 332, 334, 335, 336, 338, 339, 340, 342, 343, 345, 346, 347, 349, 350, 351, 352, 354, 355, 356, 358, 359, 360, 362, 187, 188, 363, 364, 365, 367, 368, 369, 371, 372, 373, 375, 376, 377, 379, 380, 381, 383, 384, 385, 387, 388, 390, 391, 392, 393, 394, 396, 397, 398, 399, 401, 402, 403, 405, 406, 407, 409, 410, 411, 413, 414, 416, 417, 418, 420, 421, 422, 611, 612, 613, 634, 635, 640, 641, 642, 643, 636, 637, 638, 639, 631, 632, 633] rfl (by decide +kernel) (by decide +kernel)) (goodIn_sub (fun _ h => List.mem_append_right _ h) (by decide +kernel))
set_option maxRecDepth 20000 in
theorem gL_law_L_run : GoodIn wsL_law (va_wsS RL 76 yL_run wsL_run) := goodIn_app (goodIn_of _ (by decide +kernel)) ggL_law_L_run
set_option maxRecDepth 20000 in
theorem ggL_law_X5_run : GoodIn wsL_law wsX5_run := goodIn_pq _ [427, 434, 444, 448, 452, 122, 456, 460, 466, 471, 475, 479, 483, 487, 491, 496, 500, 504, 508, 512, 516, 520, 524, 528, 532, 536, 539, 544, 550, 554, 558, 103] [95, 428, 429, 430, 431, 432, 433, 5, 56, 54, 181, 435, 436, 437, 53, 438, 439, 440, 55, 96, 441, 442, 443, 445, 446, 447, 449, 450, 451, 119, 120, 121, 453, 454, 455, 457, 458, 459, 461, 462, 463, 464, 465, 467, 468, 469, 470, 472, 473, 474, 476, 477, 478, 480, 481, 482, 484, 485, 486, 488, 489, 490, 492, 493, 494, 495, 497, 498, 499, 501, 502, 503, 505, 506, 507, 509, 510, 511, 513, 514, 515, 517, 518, 519, 521, 522, 523, 525, 526, 527, 529, 530, 531, 533, 534, 535, 537, 538, 540, 541, 542, 543, 545, 546, 547, 548, 549, 551, 552, 553, 555, 556, 557, 100, 101, 102, 614, 615, 616, 617, 618, 619, 620, 621, 622, 623, 624, 625, 626, 627, 628, 629, 630] rfl (by decide +kernel) (by decide +kernel)
set_option maxRecDepth 20000 in
theorem gL_law_X5_run : GoodIn wsL_law (wsV RL 78 RX5 yX5_run wsX5_run) := goodIn_app (goodIn_of _ (by decide +kernel)) ggL_law_X5_run
set_option maxRecDepth 20000 in
theorem ggL_law_X4_steps : GoodIn wsL_law wsX4_steps := goodIn_pq _ [562] [204, 611, 612, 613] rfl (by decide +kernel) (by decide +kernel)
set_option maxRecDepth 20000 in
theorem gL_law_X4_steps : GoodIn wsL_law (wsV RL 79 RX4 yX4_steps wsX4_steps) := goodIn_app (goodIn_of _ (by decide +kernel)) ggL_law_X4_steps
set_option maxRecDepth 20000 in
theorem ggL_law_X5_steps : GoodIn wsL_law wsX5_steps := goodIn_pq _ [566] [95, 428, 614, 615, 616, 617, 618, 619, 620, 621, 622, 623, 624, 625, 626, 627, 628, 629, 630] rfl (by decide +kernel) (by decide +kernel)
set_option maxRecDepth 20000 in
theorem gL_law_X5_steps : GoodIn wsL_law (wsV RL 82 RX5 yX5_steps wsX5_steps) := goodIn_app (goodIn_of _ (by decide +kernel)) ggL_law_X5_steps
set_option maxRecDepth 20000 in
theorem ggL_law_L_output : GoodIn wsL_law wsL_output := goodIn_ca (goodIn_pq _ [573] [569, 61, 570, 571, 572, 2, 70, 71, 16, 611, 612, 613, 631, 632, 633] rfl (by decide +kernel) (by decide +kernel)) (goodIn_sub (fun _ h => List.mem_append_left _ (List.mem_append_right _ h)) (by decide +kernel))
set_option maxRecDepth 20000 in
theorem gL_law_L_output : GoodIn wsL_law (va_wsS RL 83 yL_output wsL_output) := goodIn_app (goodIn_of _ (by decide +kernel)) ggL_law_L_output
set_option maxRecDepth 20000 in
theorem ggL_law_X5_output : GoodIn wsL_law wsX5_output := goodIn_pq _ [577] [440, 95, 55, 614, 615, 616, 617, 618, 619, 620, 621, 622, 623, 624, 625, 626, 627, 628, 629, 630] rfl (by decide +kernel) (by decide +kernel)
set_option maxRecDepth 20000 in
theorem gL_law_X5_output : GoodIn wsL_law (wsV RL 85 RX5 yX5_output wsX5_output) := goodIn_app (goodIn_of _ (by decide +kernel)) ggL_law_X5_output
set_option maxRecDepth 20000 in
theorem ggL_law_X4_outputs : GoodIn wsL_law wsX4_outputs := goodIn_pq _ [581] [16, 611, 612, 613, 631, 632, 633] rfl (by decide +kernel) (by decide +kernel)
set_option maxRecDepth 20000 in
theorem gL_law_X4_outputs : GoodIn wsL_law (wsV RL 86 RX4 yX4_outputs wsX4_outputs) := goodIn_app (goodIn_of _ (by decide +kernel)) ggL_law_X4_outputs
set_option maxRecDepth 20000 in
theorem ggL_law_X5_outputs : GoodIn wsL_law wsX5_outputs := goodIn_pq _ [585] [95, 440, 614, 615, 616, 617, 618, 619, 620, 621, 622, 623, 624, 625, 626, 627, 628, 629, 630] rfl (by decide +kernel) (by decide +kernel)
set_option maxRecDepth 20000 in
theorem gL_law_X5_outputs : GoodIn wsL_law (wsV RL 89 RX5 yX5_outputs wsX5_outputs) := goodIn_app (goodIn_of _ (by decide +kernel)) ggL_law_X5_outputs
set_option maxRecDepth 20000 in
theorem ggL_law_X4_clear : GoodIn wsL_law wsX4_clear := goodIn_pq _ [589, 593, 597, 601, 605, 189] [16, 20, 204, 590, 591, 592, 15, 25, 314, 594, 595, 596, 598, 599, 600, 19, 38, 34, 602, 603, 604, 37, 46, 606, 362, 187, 188, 33, 173, 174, 175, 176, 611, 612, 613, 631, 632, 633, 634, 635, 640, 641, 642, 643, 636, 637, 638, 639] rfl (by decide +kernel) (by decide +kernel)
set_option maxRecDepth 20000 in
theorem gL_law_X4_clear : GoodIn wsL_law (wsV RL 90 RX4 yX4_clear wsX4_clear) := goodIn_app (goodIn_of _ (by decide +kernel)) ggL_law_X4_clear
set_option maxRecDepth 20000 in
theorem ggL_law_X5_clear : GoodIn wsL_law wsX5_clear := goodIn_pq _ [610] [95, 53, 54, 181, 440, 428, 614, 615, 616, 617, 618, 619, 620, 621, 622, 623, 624, 625, 626, 627, 628, 629, 630] rfl (by decide +kernel) (by decide +kernel)
set_option maxRecDepth 20000 in
theorem gL_law_X5_clear : GoodIn wsL_law (wsV RL 93 RX5 yX5_clear wsX5_clear) := goodIn_app (goodIn_of _ (by decide +kernel)) ggL_law_X5_clear
