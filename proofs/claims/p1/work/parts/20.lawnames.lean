theorem lwF_RX0 : ∀ w ∈ u_ws RX0 TX0 15, w ∈ lw_tbl := fun w h => (goodIn_r (u_ws RX0 TX0 15) [594, 596, 598, 600, 602, 604, 606, 608, 610, 612, 614, 616, 618, 620, 622] (by decide +kernel) (by decide +kernel) w h).1
theorem lwF_RX1 : ∀ w ∈ u_ws RX1 TX1 20, w ∈ lw_tbl := fun w h => (goodIn_r (u_ws RX1 TX1 20) [1013, 1015, 1017, 1019, 1021, 1023, 1025, 1027, 1029, 1031, 1033, 1035, 1037, 1039, 1041, 1043, 1045, 1047, 1049, 1051] (by decide +kernel) (by decide +kernel) w h).1
theorem lwF_RX2 : ∀ w ∈ u_ws RX2 TX2 16, w ∈ lw_tbl := fun w h => (goodIn_r (u_ws RX2 TX2 16) [474, 476, 478, 480, 482, 484, 486, 488, 490, 492, 494, 496, 498, 500, 502, 504] (by decide +kernel) (by decide +kernel) w h).1
theorem lwF_RX3 : ∀ w ∈ u_ws RX3 TX3 6, w ∈ lw_tbl := fun w h => (goodIn_r (u_ws RX3 TX3 6) [445, 447, 449, 451, 453, 455] (by decide +kernel) (by decide +kernel) w h).1
theorem lwF_RX4 : ∀ w ∈ u_ws RX4 TX4 14, w ∈ lw_tbl := fun w h => (goodIn_r (u_ws RX4 TX4 14) [297, 299, 301, 303, 305, 307, 309, 311, 313, 315, 317, 319, 321, 323] (by decide +kernel) (by decide +kernel) w h).1
theorem lwF_RX5 : ∀ w ∈ u_ws RX5 TX5 7, w ∈ lw_tbl := fun w h => (goodIn_r (u_ws RX5 TX5 7) [412, 414, 416, 418, 420, 422, 424] (by decide +kernel) (by decide +kernel) w h).1
theorem lwF_RX6 : ∀ w ∈ u_ws RX6 TX6 2, w ∈ lw_tbl := fun w h => (goodIn_r (u_ws RX6 TX6 2) [533, 535] (by decide +kernel) (by decide +kernel) w h).1
theorem lwF_RX7 : ∀ w ∈ u_ws RX7 TX7 7, w ∈ lw_tbl := fun w h => (goodIn_r (u_ws RX7 TX7 7) [849, 851, 853, 855, 857, 859, 861] (by decide +kernel) (by decide +kernel) w h).1
theorem lwF_RX8 : ∀ w ∈ u_ws RX8 TX8 7, w ∈ lw_tbl := fun w h => (goodIn_r (u_ws RX8 TX8 7) [546, 548, 550, 552, 554, 556, 558] (by decide +kernel) (by decide +kernel) w h).1
theorem lwF_RX9 : ∀ w ∈ u_ws RX9 TX9 6, w ∈ lw_tbl := fun w h => (goodIn_r (u_ws RX9 TX9 6) [254, 256, 258, 260, 262, 264] (by decide +kernel) (by decide +kernel) w h).1
theorem lwF_RX10 : ∀ w ∈ u_ws RX10 TX10 18, w ∈ lw_tbl := fun w h => (goodIn_r (u_ws RX10 TX10 18) [360, 362, 364, 366, 368, 370, 372, 374, 376, 378, 380, 382, 384, 386, 388, 390, 392, 394] (by decide +kernel) (by decide +kernel) w h).1
theorem lwF_RX11 : ∀ w ∈ u_ws RX11 TX11 6, w ∈ lw_tbl := fun w h => (goodIn_r (u_ws RX11 TX11 6) [632, 634, 636, 638, 640, 642] (by decide +kernel) (by decide +kernel) w h).1
theorem lwF_RX12 : ∀ w ∈ u_ws RX12 TX12 65, w ∈ lw_tbl := fun w h => (goodIn_r (u_ws RX12 TX12 65) [1853, 1855, 1857, 1859, 1861, 1863, 1865, 1867, 1869, 1871, 1873, 1875, 1877, 1879, 1881, 1883, 1885, 1887, 1889, 1891, 1893, 1895, 1897, 1899, 1901, 1903, 1905, 1907, 1909, 1911, 1913, 1915, 1917, 1919, 1921, 1923, 1925, 1927, 1929, 1931, 1933, 1935, 1937, 1939, 1941, 1943, 1945, 1947, 1949, 1951, 1953, 1955, 1957, 1959, 1961, 1963, 1965, 1967, 1969, 1971, 1973, 1975, 1977, 1979, 1981] (by decide +kernel) (by decide +kernel) w h).1
def lwS_1 : List Cond := [.code yX11_feed cX11_feed 6 (some .int), .fieldLink RX11 27 "PutBack" "reader" "LPutBack$Reader;", .fieldLink RX11 53 "PutBack$Reader" "length" "I", .methodLink RX11 57 yX4_take, .instanceMethod yX4_take, .selects RX4 yX4_take yX4_take, .initialized RX4, .code yX4_take cX4_take 3 none, .fieldLink RX4 43 "PutBack$Reader" "length" "I", .fieldLink RX4 24 "PutBack$Reader" "tape" "[I", .methodLink RL 13 yX11_feed, .instanceMethod yX11_feed, .selects RX11 yX11_feed yX11_feed, .initialized RX11, .code yX12_feed cX12_feed 8 (some .int), .fieldLink RX12 142 "PutBackModel" "told" "I", .fieldLink RX12 318 "PutBackModel" "taped" "I", .fieldLink RX12 101 "PutBackModel" "tape" "[B", .methodLink RL 17 yX12_feed, .instanceMethod yX12_feed, .selects RX12 yX12_feed yX12_feed, .initialized RX12, .code yX11_end cX11_end 2 (some .boolean), .methodLink RL 18 yX11_end, .instanceMethod yX11_end, .selects RX11 yX11_end yX11_end, .code yX12_end cX12_end 2 (some .boolean), .methodLink RX12 153 yX12_isIn, .instanceMethod yX12_isIn, .selects RX12 yX12_isIn yX12_isIn]
theorem lwS_1_in : ∀ w ∈ lwS_1, w ∈ lw_tbl := fun w h => (goodIn_r lwS_1 [648, 628, 281, 649, 650, 651, 213, 652, 282, 289, 645, 646, 647, 211, 2241, 1788, 1827, 1826, 2238, 2239, 2240, 221, 656, 653, 654, 655, 2245, 1998, 2000, 103] (by decide +kernel) (by decide +kernel) w h).1
def lwS_2 : List Cond := [.code yX12_isIn cX12_isIn 7 (some .boolean), .methodLink RL 22 yX12_end, .instanceMethod yX12_end, .selects RX12 yX12_end yX12_end, .code yX11_lens cX11_lens 2 (some .int), .methodLink RX11 61 yX4_readDefinition, .instanceMethod yX4_readDefinition, .selects RX4 yX4_readDefinition yX4_readDefinition, .code yX4_readDefinition cX4_readDefinition 6 (some .int), .fieldLink RX4 62 "PutBack$Reader" "place" "I", .fieldLink RX4 65 "PutBack$Reader" "opened" "I", .fieldLink RX4 68 "PutBack$Reader" "fault" "I", .fieldLink RX4 17 "PutBack$Reader" "faultPlace" "I", .fieldLink RX4 21 "PutBack$Reader" "shownBy" "I", .methodLink RX4 71 yX4_ownName, .instanceMethod yX4_ownName, .selects RX4 yX4_ownName yX4_ownName, .code yX4_ownName cX4_ownName 4 (some .long), .methodLink RX4 93 yX4_sign, .instanceMethod yX4_sign, .selects RX4 yX4_sign yX4_sign, .code yX4_sign cX4_sign 1 (some .int), .methodLink RX4 156 yX4_takeName, .instanceMethod yX4_takeName, .selects RX4 yX4_takeName yX4_takeName, .code yX4_takeName cX4_takeName 5 (some .long), .methodLink RX4 125 yX4_letters, .instanceMethod yX4_letters, .selects RX4 yX4_letters yX4_letters, .code yX4_letters cX4_letters 2 (some .int)]
theorem lwS_2_in : ∀ w ∈ lwS_2, w ∈ lw_tbl := fun w h => (goodIn_r lwS_2 [2001, 2242, 2243, 2244, 660, 661, 662, 663, 664, 295, 296, 283, 285, 287, 665, 667, 0, 668, 669, 671, 1, 672, 673, 675, 2, 676, 677, 679, 3, 680] (by decide +kernel) (by decide +kernel) w h).1
def lwS_3 : List Cond := [.methodLink RX4 97 yX4_refuse, .instanceMethod yX4_refuse, .selects RX4 yX4_refuse yX4_refuse, .code yX4_refuse cX4_refuse 3 none, .methodLink RL 23 yX11_lens, .instanceMethod yX11_lens, .selects RX11 yX11_lens yX11_lens, .code yX12_lens cX12_lens 8 (some .int), .fieldLink RX12 161 "PutBackModel" "sets" "I", .fieldLink RX12 164 "PutBackModel" "pool" "I", .fieldLink RX12 225 "PutBackModel" "nodes" "I", .fieldLink RX12 228 "PutBackModel" "wordsLong" "I", .fieldLink RX12 321 "PutBackModel" "isFaulty" "Z", .fieldLink RX12 325 "PutBackModel" "fault" "I", .fieldLink RX12 105 "PutBackModel" "faultPlace" "I", .fieldLink RX12 109 "PutBackModel" "shownBy" "I", .fieldLink RX12 334 "PutBackModel" "at" "I", .fieldLink RX12 400 "PutBackModel" "open" "I", .fieldLink RX12 222 "PutBackModel" "top" "I", .methodLink RX12 355 yX12_step, .instanceMethod yX12_step, .selects RX12 yX12_step yX12_step, .code yX12_step cX12_step 2 none, .methodLink RX12 337 yX12_see, .instanceMethod yX12_see, .selects RX12 yX12_see yX12_see, .code yX12_see cX12_see 2 (some .int), .fieldLink RX12 328 "PutBackModel" "place" "I", .fieldLink RX12 340 "PutBackModel" "sign" "I", .fieldLink RX12 343 "PutBackModel" "word" "J"]
theorem lwS_3_in : ∀ w ∈ lwS_3, w ∈ lw_tbl := fun w h => (goodIn_r lwS_3 [744, 746, 6, 747, 657, 658, 659, 1987, 1794, 1797, 1811, 1813, 1833, 1834, 1835, 1836, 1828, 1837, 1802, 1988, 1990, 101, 1991, 1992, 1994, 102, 1995, 1829, 1831, 1832] (by decide +kernel) (by decide +kernel) w h).1
def lwS_4 : List Cond := [.fieldLink RX12 347 "PutBackModel" "kind" "I", .methodLink RX12 503 yX12_isName, .instanceMethod yX12_isName, .selects RX12 yX12_isName yX12_isName, .code yX12_isName cX12_isName 1 (some .boolean), .methodLink RX12 361 yX12_faulty, .instanceMethod yX12_faulty, .selects RX12 yX12_faulty yX12_faulty, .code yX12_faulty cX12_faulty 2 none, .methodLink RX12 331 yX12_faultyAt, .instanceMethod yX12_faultyAt, .selects RX12 yX12_faultyAt yX12_faultyAt, .code yX12_faultyAt cX12_faultyAt 4 none, .fieldLink RX12 506 "PutBackModel" "lenses" "I", .methodLink RX12 403 yX12_asks, .instanceMethod yX12_asks, .selects RX12 yX12_asks yX12_asks, .code yX12_asks cX12_asks 2 none, .methodLink RX12 358 yX12_passes, .instanceMethod yX12_passes, .selects RX12 yX12_passes yX12_passes, .code yX12_passes cX12_passes 2 (some .boolean), .methodLink RX12 352 yX12_isSign, .instanceMethod yX12_isSign, .selects RX12 yX12_isSign yX12_isSign, .code yX12_isSign cX12_isSign 2 (some .boolean), .methodLink RL 27 yX12_lens, .instanceMethod yX12_lens, .selects RX12 yX12_lens yX12_lens, .code yX11_fault cX11_fault 2 (some .int)]
theorem lwS_4_in : ∀ w ∈ lwS_4, w ∈ lw_tbl := fun w h => (goodIn_r lwS_4 [1830, 2003, 2005, 104, 2006, 2028, 2030, 108, 2031, 2032, 2034, 109, 2035, 1816, 2036, 2038, 110, 2039, 2040, 2042, 111, 2043, 2044, 2046, 112, 2047, 1984, 1985, 1986, 1276] (by decide +kernel) (by decide +kernel) w h).1
def lwS_5 : List Cond := [.fieldLink RX11 65 "PutBack$Reader" "fault" "I", .fieldLink RX11 68 "PutBack$Reader" "faultPlace" "I", .fieldLink RX11 71 "PutBack$Reader" "shownBy" "I", .methodLink RL 28 yX11_fault, .instanceMethod yX11_fault, .selects RX11 yX11_fault yX11_fault, .code yX12_fault cX12_fault 2 (some .int), .methodLink RL 32 yX12_fault, .instanceMethod yX12_fault, .selects RX12 yX12_fault yX12_fault, .code yX11_text cX11_text 4 (some .int), .methodLink RX11 74 yX11_slotAt, .instanceMethod yX11_slotAt, .selects RX11 yX11_slotAt yX11_slotAt, .code yX11_slotAt cX11_slotAt 2 (some (.object "PutBack$Text")), .fieldLink RX11 11 "PutBack" "slots" "[LPutBack$Text;", .methodLink RX11 78 yX4_isText, .instanceMethod yX4_isText, .selects RX4 yX4_isText yX4_isText, .code yX4_isText cX4_isText 3 (some .boolean), .methodLink RX11 82 yX4_spellInto, .instanceMethod yX4_spellInto, .selects RX4 yX4_spellInto yX4_spellInto, .code yX4_spellInto cX4_spellInto 3 none, .methodLink RX4 50 Lib.Math.min.name, .static Lib.Math.min.name, .initialized "java/lang/Math", .code Lib.Math.min.name Lib.Math.min.code 2 (some .int), .fieldLink RX4 56 "PutBack$Text" "length" "I", .fieldLink RX11 86 "PutBack$Text" "length" "I"]
theorem lwS_5_in : ∀ w ∈ lwS_5, w ∈ lw_tbl := fun w h => (goodIn_r lwS_5 [284, 286, 288, 1273, 1274, 1275, 2237, 2234, 2235, 2236, 1280, 1281, 1283, 53, 1284, 626, 1285, 1286, 1287, 1288, 1289, 1290, 1291, 1292, 1293, 815, 227, 816, 528, 530] (by decide +kernel) (by decide +kernel) w h).1
def lwS_6 : List Cond := [.methodLink RL 33 yX11_text, .instanceMethod yX11_text, .selects RX11 yX11_text yX11_text, .code yX12_text cX12_text 5 (some .int), .methodLink RX12 514 yX12_isSlot, .instanceMethod yX12_isSlot, .selects RX12 yX12_isSlot yX12_isSlot, .code yX12_isSlot cX12_isSlot 2 (some .boolean), .constantLong RX12 512 (7), .fieldLink RX12 115 "PutBackModel" "slotLong" "[I", .methodLink RL 36 yX12_text, .instanceMethod yX12_text, .selects RX12 yX12_text yX12_text, .code yX11_symbol cX11_symbol 4 (some .int), .methodLink RL 37 yX11_symbol, .instanceMethod yX11_symbol, .selects RX11 yX11_symbol yX11_symbol, .code yX12_symbol cX12_symbol 3 (some .int), .methodLink RL 41 yX12_symbol, .instanceMethod yX12_symbol, .selects RX12 yX12_symbol yX12_symbol, .code yX11_fits cX11_fits 6 (some .int), .methodLink RX11 95 yX11_setAt, .instanceMethod yX11_setAt, .selects RX11 yX11_setAt yX11_setAt, .code yX11_setAt cX11_setAt 4 (some (.object "PutBack$TextSet")), .methodLink RX11 105 yX11_lensAt, .instanceMethod yX11_lensAt, .selects RX11 yX11_lensAt yX11_lensAt, .code yX11_lensAt cX11_lensAt 2 (some (.object "PutBack$Lens"))]
theorem lwS_6_in : ∀ w ∈ lwS_6, w ∈ lw_tbl := fun w h => (goodIn_r lwS_6 [1277, 1278, 1279, 2249, 2250, 2252, 159, 2253, 2254, 1839, 2246, 2247, 2248, 1297, 1294, 1295, 1296, 2258, 2255, 2256, 2257, 1302, 1303, 1305, 54, 1306, 1307, 1309, 55, 1310] (by decide +kernel) (by decide +kernel) w h).1
def lwS_7 : List Cond := [.fieldLink RX11 259 "PutBack$Reader" "told" "I", .methodLink RL 42 yX11_fits, .instanceMethod yX11_fits, .selects RX11 yX11_fits yX11_fits, .code yX12_fits cX12_fits 5 (some .int), .methodLink RX12 520 yX12_isLens, .instanceMethod yX12_isLens, .selects RX12 yX12_isLens yX12_isLens, .code yX12_isLens cX12_isLens 2 (some .boolean), .methodLink RL 46 yX12_fits, .instanceMethod yX12_fits, .selects RX12 yX12_fits yX12_fits, .code yX11_get cX11_get 7 (some .int), .methodLink RL 47 yX11_get, .instanceMethod yX11_get, .selects RX11 yX11_get yX11_get, .code yX12_get cX12_get 6 (some .int), .methodLink RL 50 yX12_get, .instanceMethod yX12_get, .selects RX12 yX12_get yX12_get, .code yX11_put cX11_put 9 (some .int), .methodLink RL 51 yX11_put, .instanceMethod yX11_put, .selects RX11 yX11_put yX11_put, .code yX12_put cX12_put 8 (some .int), .methodLink RL 55 yX12_put, .instanceMethod yX12_put, .selects RX12 yX12_put yX12_put, .code yX11_create cX11_create 7 (some .int), .methodLink RL 56 yX11_create]
theorem lwS_7_in : ∀ w ∈ lwS_7, w ∈ lw_tbl := fun w h => (goodIn_r lwS_7 [280, 1299, 1300, 1301, 2262, 2263, 2265, 160, 2266, 2259, 2260, 2261, 1319, 1316, 1317, 1318, 2290, 2287, 2288, 2289, 1567, 1564, 1565, 1566, 2334, 2331, 2332, 2333, 1575, 1572] (by decide +kernel) (by decide +kernel) w h).1
def lwS_8 : List Cond := [.instanceMethod yX11_create, .selects RX11 yX11_create yX11_create, .code yX12_create cX12_create 6 (some .int), .methodLink RL 59 yX12_create, .instanceMethod yX12_create, .selects RX12 yX12_create yX12_create, .code yX11_many cX11_many 5 (some .long), .constantLong RX11 117 (-1), .methodLink RL 60 yX11_many, .instanceMethod yX11_many, .selects RX11 yX11_many yX11_many, .code yX12_many cX12_many 4 (some .long), .constantLong RX12 540 (-1), .methodLink RL 64 yX12_many, .instanceMethod yX12_many, .selects RX12 yX12_many yX12_many, .code yX11_nth cX11_nth 7 (some .int), .methodLink RL 65 yX11_nth, .instanceMethod yX11_nth, .selects RX11 yX11_nth yX11_nth, .code yX12_nth cX12_nth 5 (some .int), .methodLink RL 68 yX12_nth, .instanceMethod yX12_nth, .selects RX12 yX12_nth yX12_nth, .code yX11_compare cX11_compare 7 (some .int), .methodLink RL 69 yX11_compare, .instanceMethod yX11_compare, .selects RX11 yX11_compare yX11_compare, .code yX12_compare cX12_compare 5 (some .int), .methodLink RL 72 yX12_compare]
theorem lwS_8_in : ∀ w ∈ lwS_8, w ∈ lw_tbl := fun w h => (goodIn_r lwS_8 [1573, 1574, 2394, 2391, 2392, 2393, 1579, 1580, 1576, 1577, 1578, 2398, 2400, 2395, 2396, 2397, 1606, 1603, 1604, 1605, 2417, 2414, 2415, 2416, 1625, 1622, 1623, 1624, 2426, 2423] (by decide +kernel) (by decide +kernel) w h).1
def lwS_9 : List Cond := [.instanceMethod yX12_compare, .selects RX12 yX12_compare yX12_compare, .code yX11_set cX11_set 5 (some .int), .methodLink RL 73 yX11_set, .instanceMethod yX11_set, .selects RX11 yX11_set yX11_set, .code yX12_set cX12_set 5 (some .int), .methodLink RL 76 yX12_set, .instanceMethod yX12_set, .selects RX12 yX12_set yX12_set, .code yX11_goesOn cX11_goesOn 11 (some .int), .methodLink RL 77 yX11_goesOn, .instanceMethod yX11_goesOn, .selects RX11 yX11_goesOn yX11_goesOn, .code yX12_goesOn cX12_goesOn 12 (some .int), .methodLink RL 80 yX12_goesOn, .instanceMethod yX12_goesOn, .selects RX12 yX12_goesOn yX12_goesOn, .code yX11_parts cX11_parts 5 (some .int), .methodLink RX11 166 yX11_repeatedOf, .static yX11_repeatedOf, .code yX11_repeatedOf cX11_repeatedOf 3 (some (.object "PutBack$Lens")), .methodLink RL 81 yX11_parts, .instanceMethod yX11_parts, .selects RX11 yX11_parts yX11_parts, .code yX12_parts cX12_parts 4 (some .int), .methodLink RX12 556 yX12_isRepeated, .instanceMethod yX12_isRepeated, .selects RX12 yX12_isRepeated yX12_isRepeated, .code yX12_isRepeated cX12_isRepeated 4 (some .boolean)]
theorem lwS_9_in : ∀ w ∈ lwS_9, w ∈ lw_tbl := fun w h => (goodIn_r lwS_9 [2424, 2425, 1630, 1627, 1628, 1629, 2430, 2427, 2428, 2429, 1634, 1631, 1632, 1633, 2434, 2431, 2432, 2433, 1646, 1647, 1648, 1649, 1643, 1644, 1645, 2438, 2439, 2441, 194, 2442] (by decide +kernel) (by decide +kernel) w h).1
def lwS_10 : List Cond := [.methodLink RL 84 yX12_parts, .instanceMethod yX12_parts, .selects RX12 yX12_parts yX12_parts, .code yX11_aligned cX11_aligned 8 (some .int), .methodLink RL 85 yX11_aligned, .instanceMethod yX11_aligned, .selects RX11 yX11_aligned yX11_aligned, .code yX12_aligned cX12_aligned 8 (some .int), .methodLink RL 88 yX12_aligned, .instanceMethod yX12_aligned, .selects RX12 yX12_aligned yX12_aligned, .code yX11_key cX11_key 8 (some .int), .methodLink RL 89 yX11_key, .instanceMethod yX11_key, .selects RX11 yX11_key yX11_key, .code yX12_key cX12_key 7 (some .int), .methodLink RL 92 yX12_key, .instanceMethod yX12_key, .selects RX12 yX12_key yX12_key, .code yX11_laws cX11_laws 5 (some .int), .methodLink RL 93 yX11_laws, .instanceMethod yX11_laws, .selects RX11 yX11_laws yX11_laws, .code yX12_laws cX12_laws 10 (some .int), .methodLink RL 96 yX12_laws, .instanceMethod yX12_laws, .selects RX12 yX12_laws yX12_laws, .code yX11_open cX11_open 5 (some .int), .methodLink RL 97 yX11_open, .instanceMethod yX11_open]
theorem lwS_10_in : ∀ w ∈ lwS_10, w ∈ lw_tbl := fun w h => (goodIn_r lwS_10 [2435, 2436, 2437, 1658, 1655, 1656, 1657, 2454, 2451, 2452, 2453, 1667, 1664, 1665, 1666, 2462, 2459, 2460, 2461, 1675, 1672, 1673, 1674, 2466, 2463, 2464, 2465, 1706, 1703, 1704] (by decide +kernel) (by decide +kernel) w h).1
def lwS_11 : List Cond := [.selects RX11 yX11_open yX11_open, .code yX12_open cX12_open 5 (some .int), .methodLink RL 100 yX12_open, .instanceMethod yX12_open, .selects RX12 yX12_open yX12_open, .code yX11_edit cX11_edit 7 (some .int), .fieldLink RX11 48 "PutBack" "desk" "LPutBack$Desk;", .fieldLink RX11 212 "PutBack$Desk" "lens" "LPutBack$Lens;", .methodLink RL 101 yX11_edit, .instanceMethod yX11_edit, .selects RX11 yX11_edit yX11_edit, .code yX12_edit cX12_edit 7 (some .int), .fieldLink RX12 124 "PutBackModel" "openLens" "I", .methodLink RL 104 yX12_edit, .instanceMethod yX12_edit, .selects RX12 yX12_edit yX12_edit, .code yX11_undo cX11_undo 1 (some .boolean), .methodLink RX11 226 yX0_takeBack, .instanceMethod yX0_takeBack, .selects RX0 yX0_takeBack yX0_takeBack, .initialized RX0, .code yX0_takeBack cX0_takeBack 1 (some .boolean), .fieldLink RX0 48 "PutBack$Desk" "kept" "I", .methodLink RL 105 yX11_undo, .instanceMethod yX11_undo, .selects RX11 yX11_undo yX11_undo, .code yX12_undo cX12_undo 2 (some .boolean), .fieldLink RX12 594 "PutBackModel" "undos" "I", .methodLink RL 109 yX12_undo, .instanceMethod yX12_undo]
theorem lwS_11_in : ∀ w ∈ lwS_11, w ∈ lw_tbl := fun w h => (goodIn_r lwS_11 [1705, 2500, 2497, 2498, 2499, 1720, 631, 570, 1717, 1718, 1719, 2508, 1844, 2505, 2506, 2507, 1751, 1752, 1753, 1754, 220, 1755, 573, 1748, 1749, 1750, 2528, 1849, 2525, 2526] (by decide +kernel) (by decide +kernel) w h).1
def lwS_12 : List Cond := [.selects RX12 yX12_undo yX12_undo, .code yX11_copy cX11_copy 4 (some .int), .methodLink RL 110 yX11_copy, .instanceMethod yX11_copy, .selects RX11 yX11_copy yX11_copy, .code yX12_copy cX12_copy 3 (some .int), .methodLink RL 113 yX12_copy, .instanceMethod yX12_copy, .selects RX12 yX12_copy yX12_copy, .code yX11_moved cX11_moved 2 (some .int), .fieldLink RX11 232 "PutBack$Desk" "hasMoved" "Z", .methodLink RL 114 yX11_moved, .instanceMethod yX11_moved, .selects RX11 yX11_moved yX11_moved, .code yX12_moved cX12_moved 2 (some .int), .fieldLink RX12 600 "PutBackModel" "isMoved" "Z", .methodLink RL 117 yX12_moved, .instanceMethod yX12_moved, .selects RX12 yX12_moved yX12_moved, .code yX11_join cX11_join 7 (some .int), .fieldLink RX11 244 "PutBack$Desk" "spare" "LPutBack$Text;", .methodLink RX11 247 yX6_splice, .instanceMethod yX6_splice, .selects RX6 yX6_splice yX6_splice, .initialized RX6, .code yX6_splice cX6_splice 6 (some .boolean), .methodLink RX6 29 yX6_reaches, .instanceMethod yX6_reaches, .selects RX6 yX6_reaches yX6_reaches, .code yX6_reaches cX6_reaches 3 (some .boolean)]
theorem lwS_12_in : ∀ w ∈ lwS_12, w ∈ lw_tbl := fun w h => (goodIn_r lwS_12 [2527, 1759, 1756, 1757, 1758, 2532, 2529, 2530, 2531, 1764, 578, 1761, 1762, 1763, 2536, 1851, 2533, 2534, 2535, 1768, 589, 1769, 1730, 1731, 219, 1732, 1733, 1734, 1735, 1736] (by decide +kernel) (by decide +kernel) w h).1
def lwS_13 : List Cond := [.fieldLink RX6 21 "PutBack$Text" "length" "I", .fieldLink RX6 9 "PutBack$Text" "ranks" "[B", .methodLink RX6 15 arraycopyName, .native arraycopyName, .static arraycopyName, .initialized "java/lang/System", .methodLink RX11 229 yX6_become, .instanceMethod yX6_become, .selects RX6 yX6_become yX6_become, .code yX6_become cX6_become 2 none, .methodLink RX6 25 yX6_fill, .instanceMethod yX6_fill, .selects RX6 yX6_fill yX6_fill, .code yX6_fill cX6_fill 4 none, .methodLink RL 118 yX11_join, .instanceMethod yX11_join, .selects RX11 yX11_join yX11_join, .code yX12_join cX12_join 5 (some .int), .methodLink RX12 526 yX12_clearsHeap, .instanceMethod yX12_clearsHeap, .selects RX12 yX12_clearsHeap yX12_clearsHeap, .code yX12_clearsHeap cX12_clearsHeap 1 none, .fieldLink RX12 291 "PutBackModel" "partsTop" "I", .fieldLink RX12 306 "PutBackModel" "outsTop" "I", .methodLink RX12 529 yX12_lays, .instanceMethod yX12_lays, .selects RX12 yX12_lays yX12_lays, .code yX12_lays cX12_lays 4 (some .int), .methodLink RX12 535 yX12_takes, .instanceMethod yX12_takes]
theorem lwS_13_in : ∀ w ∈ lwS_13, w ∈ lw_tbl := fun w h => (goodIn_r lwS_13 [527, 519, 1563, 1076, 1075, 231, 1760, 1713, 1714, 1715, 1716, 1560, 1561, 1562, 1765, 1766, 1767, 2541, 2271, 2273, 162, 2274, 1822, 1825, 2275, 2277, 163, 2278, 2327, 2329] (by decide +kernel) (by decide +kernel) w h).1
def lwS_14 : List Cond := [.selects RX12 yX12_takes yX12_takes, .code yX12_takes cX12_takes 5 (some .int), .methodLink RL 121 yX12_join, .instanceMethod yX12_join, .selects RX12 yX12_join yX12_join, .code yX11_cut cX11_cut 7 (some .int), .methodLink RX11 251 yX6_reaches, .fieldLink RX11 87 "PutBack$Text" "ranks" "[B", .methodLink RX11 255 yX6_fill, .methodLink RL 122 yX11_cut, .instanceMethod yX11_cut, .selects RX11 yX11_cut yX11_cut, .code yX12_cut cX12_cut 7 (some .int), .methodLink RX12 235 yX12_putsAll, .instanceMethod yX12_putsAll, .selects RX12 yX12_putsAll yX12_putsAll, .code yX12_putsAll cX12_putsAll 4 none, .methodLink RL 125 yX12_cut, .instanceMethod yX12_cut, .selects RX12 yX12_cut yX12_cut, .code yX11_look cX11_look 2 (some .int), .fieldLink RX11 262 "PutBack$Desk" "number" "I", .fieldLink RX11 265 "PutBack$Desk" "kept" "I", .fieldLink RX11 220 "PutBack$Desk" "refused" "I", .methodLink RL 126 yX11_look, .instanceMethod yX11_look, .selects RX11 yX11_look yX11_look, .code yX12_look cX12_look 2 (some .int), .fieldLink RX12 597 "PutBackModel" "nones" "I", .methodLink RL 129 yX12_look]
theorem lwS_14_in : ∀ w ∈ lwS_14, w ∈ lw_tbl := fun w h => (goodIn_r lwS_14 [175, 2330, 2538, 2539, 2540, 1773, 1774, 523, 1775, 1770, 1771, 1772, 2545, 2295, 2297, 167, 2298, 2542, 2543, 2544, 1779, 572, 574, 576, 1776, 1777, 1778, 2549, 1850, 2546] (by decide +kernel) (by decide +kernel) w h).1
def lwS_15 : List Cond := [.instanceMethod yX12_look, .selects RX12 yX12_look yX12_look, .classLink RL 7 RX11, .instantiable RX11 6, .methodLink RL 9 yX11_init, .instanceMethod yX11_init, .classLink RL 10 RX12, .instantiable RX12 65, .methodLink RL 12 yX12_init, .instanceMethod yX12_init, .code yX11_init cX11_init 2 none, .methodLink RX11 3 objectInit, .instanceMethod objectInit, .code objectInit ⟨#[0xb1]⟩ 1 none, .classLink RX11 9 RX6, .classLink RX11 15 RX9, .instantiable RX9 6, .initialized RX9, .instanceMethod yX9_init, .code yX9_init cX9_init 1 none, .methodLink RX9 3 objectInit, .arrayClass .long, .fieldLink RX9 11 "PutBack$Walker" "seen" "[J", .arrayClass .int, .fieldLink RX9 15 "PutBack$Walker" "waiting" "[I", .fieldLink RX9 19 "PutBack$Walker" "ways" "[J", .fieldLink RX11 18 "PutBack" "walker" "LPutBack$Walker;", .classLink RX11 22 RX4, .instantiable RX4 14, .methodLink RX11 24 yX4_init]
theorem lwS_15_in : ∀ w ∈ lwS_15, w ∈ lw_tbl := fun w h => (goodIn_r lwS_15 [2547, 2548, 232, 233, 234, 235, 1780, 1781, 1782, 1783, 236, 237, 238, 239, 240, 242, 243, 212, 245, 246, 247, 267, 248, 268, 249, 251, 627, 269, 270, 271] (by decide +kernel) (by decide +kernel) w h).1
def lwS_16 : List Cond := [.instanceMethod yX4_init, .code yX4_init cX4_init 2 none, .methodLink RX4 3 objectInit, .classLink RX4 9 RX1, .fieldLink RX4 11 "PutBack$Reader" "lenses" "[LPutBack$Lens;", .fieldLink RX4 28 "PutBack$Reader" "names" "[J", .arrayClass .byte, .fieldLink RX4 32 "PutBack$Reader" "quoted" "[B", .fieldLink RX4 36 "PutBack$Reader" "links" "[LPutBack$Lens;", .fieldLink RX4 39 "PutBack$Reader" "walker" "LPutBack$Walker;", .classLink RX11 31 RX2, .instantiable RX2 16, .initialized RX2, .instanceMethod yX2_init, .code yX2_init cX2_init 1 none, .methodLink RX2 3 objectInit, .fieldLink RX2 9 "PutBack$Machine" "store" "[B", .classLink RX2 15 RX1, .fieldLink RX2 17 "PutBack$Machine" "waiting" "[LPutBack$Lens;", .fieldLink RX2 21 "PutBack$Machine" "ranges" "[I", .fieldLink RX2 25 "PutBack$Machine" "marks" "[I", .classLink RX2 28 RX10, .instantiable RX10 18, .initialized RX10, .instanceMethod yX10_init, .code yX10_init cX10_init 1 none, .methodLink RX10 3 objectInit, .fieldLink RX10 9 "PutBack$Words" "told" "[B", .classLink RX10 15 RX1, .fieldLink RX10 17 "PutBack$Words" "lenses" "[LPutBack$Lens;"]
theorem lwS_16_in : ∀ w ∈ lwS_16, w ∈ lw_tbl := fun w h => (goodIn_r lwS_16 [272, 273, 274, 275, 277, 290, 326, 291, 292, 293, 327, 328, 214, 330, 331, 332, 458, 333, 460, 461, 463, 334, 335, 215, 337, 338, 339, 341, 340, 343] (by decide +kernel) (by decide +kernel) w h).1
def lwS_17 : List Cond := [.fieldLink RX10 21 "PutBack$Words" "states" "[I", .fieldLink RX10 25 "PutBack$Words" "first" "[I", .fieldLink RX10 28 "PutBack$Words" "times" "[J", .fieldLink RX10 32 "PutBack$Words" "rest" "[I", .fieldLink RX10 35 "PutBack$Words" "places" "[I", .fieldLink RX10 38 "PutBack$Words" "asked" "[I", .fieldLink RX10 41 "PutBack$Words" "answers" "[I", .fieldLink RX10 44 "PutBack$Words" "stack" "[I", .fieldLink RX10 47 "PutBack$Words" "stackTimes" "[J", .fieldLink RX2 31 "PutBack$Machine" "words" "LPutBack$Words;", .classLink RX2 35 RX5, .instantiable RX5 7, .initialized RX5, .instanceMethod yX5_init, .code yX5_init cX5_init 1 none, .methodLink RX5 5 objectInit, .fieldLink RX5 11 "PutBack$Recall" "told" "[B", .fieldLink RX5 15 "PutBack$Recall" "asked" "[J", .fieldLink RX5 19 "PutBack$Recall" "rows" "[J", .fieldLink RX2 38 "PutBack$Machine" "recall" "LPutBack$Recall;", .fieldLink RX2 42 "PutBack$Machine" "viewFrom" "[I", .fieldLink RX2 45 "PutBack$Machine" "viewTo" "[I", .fieldLink RX2 48 "PutBack$Machine" "sourceFrom" "[I", .fieldLink RX2 51 "PutBack$Machine" "sourceTo" "[I", .classLink RX2 54 RX3, .instantiable RX3 6, .initialized RX3, .instanceMethod yX3_init, .code yX3_init cX3_init 1 none, .methodLink RX3 3 objectInit]
theorem lwS_17_in : ∀ w ∈ lwS_17, w ∈ lw_tbl := fun w h => (goodIn_r lwS_17 [344, 346, 347, 348, 350, 351, 352, 354, 355, 466, 397, 398, 216, 400, 401, 402, 403, 407, 408, 467, 468, 469, 470, 471, 427, 428, 217, 430, 431, 432] (by decide +kernel) (by decide +kernel) w h).1
def lwS_18 : List Cond := [.fieldLink RX3 9 "PutBack$Parts" "from" "[I", .fieldLink RX3 15 "PutBack$Parts" "to" "[I", .fieldLink RX3 18 "PutBack$Parts" "keyFrom" "[I", .fieldLink RX3 21 "PutBack$Parts" "keyTo" "[I", .fieldLink RX3 24 "PutBack$Parts" "partner" "[I", .fieldLink RX2 57 "PutBack$Machine" "viewParts" "LPutBack$Parts;", .fieldLink RX2 61 "PutBack$Machine" "sourceParts" "LPutBack$Parts;", .fieldLink RX11 34 "PutBack" "machine" "LPutBack$Machine;", .classLink RX11 38 RX8, .instantiable RX8 7, .initialized RX8, .methodLink RX11 40 yX8_init, .instanceMethod yX8_init, .code yX8_init cX8_init 2 none, .methodLink RX8 3 objectInit, .classLink RX8 9 RX6, .fieldLink RX8 11 "PutBack$Trial" "sources" "[LPutBack$Text;", .fieldLink RX8 17 "PutBack$Trial" "views" "[LPutBack$Text;", .fieldLink RX8 20 "PutBack$Trial" "backs" "[LPutBack$Text;", .arrayClass .boolean, .fieldLink RX8 23 "PutBack$Trial" "made" "[Z", .instantiable RX6 2, .instanceMethod yX6_init, .code yX6_init cX6_init 1 none, .methodLink RX6 3 objectInit, .fieldLink RX8 28 "PutBack$Trial" "outcome" "LPutBack$Text;", .fieldLink RX11 41 "PutBack" "trial" "LPutBack$Trial;", .classLink RX11 45 RX0, .instantiable RX0 15, .methodLink RX11 47 yX0_init]
theorem lwS_18_in : ∀ w ∈ lwS_18, w ∈ lw_tbl := fun w h => (goodIn_r lwS_18 [433, 435, 437, 439, 441, 472, 473, 629, 507, 508, 218, 509, 510, 511, 512, 513, 539, 540, 541, 538, 542, 514, 516, 517, 518, 543, 630, 561, 562, 563] (by decide +kernel) (by decide +kernel) w h).1
def lwS_19 : List Cond := [.instanceMethod yX0_init, .code yX0_init cX0_init 2 none, .methodLink RX0 3 objectInit, .fieldLink RX0 9 "PutBack$Desk" "number" "I", .classLink RX0 15 RX6, .fieldLink RX0 18 "PutBack$Desk" "source" "LPutBack$Text;", .fieldLink RX0 22 "PutBack$Desk" "view" "LPutBack$Text;", .fieldLink RX0 25 "PutBack$Desk" "spare" "LPutBack$Text;", .fieldLink RX0 28 "PutBack$Desk" "outcome" "LPutBack$Text;", .fieldLink RX0 31 "PutBack$Desk" "oldSources" "[LPutBack$Text;", .fieldLink RX0 35 "PutBack$Desk" "oldViews" "[LPutBack$Text;", .code yX12_init cX12_init 1 none, .methodLink RX12 1 objectInit, .fieldLink RX12 7 "PutBackModel" "setAt" "[I", .fieldLink RX12 13 "PutBackModel" "setMany" "[I", .fieldLink RX12 16 "PutBackModel" "setFirst" "[J", .fieldLink RX12 20 "PutBackModel" "setLast" "[J", .fieldLink RX12 23 "PutBackModel" "setEmpty" "[Z", .constant RX12 27 (400000), .fieldLink RX12 28 "PutBackModel" "symbols" "[J", .fieldLink RX12 31 "PutBackModel" "behind" "[J", .fieldLink RX12 34 "PutBackModel" "isPair" "[Z", .fieldLink RX12 37 "PutBackModel" "pairs" "[I", .fieldLink RX12 40 "PutBackModel" "ways" "[J", .constant RX12 43 (200000), .fieldLink RX12 44 "PutBackModel" "heap" "[I", .fieldLink RX12 47 "PutBackModel" "nodeKind" "[I", .fieldLink RX12 50 "PutBackModel" "nodeA" "[I", .fieldLink RX12 53 "PutBackModel" "nodeB" "[I", .fieldLink RX12 56 "PutBackModel" "nodeS" "[I"]
theorem lwS_19_in : ∀ w ∈ lwS_19, w ∈ lw_tbl := fun w h => (goodIn_r lwS_19 [564, 565, 566, 571, 567, 585, 586, 588, 590, 591, 592, 1784, 1785, 1789, 1790, 1791, 1792, 1793, 1786, 1795, 1796, 1798, 1799, 1800, 1787, 1801, 1803, 1804, 1805, 1806] (by decide +kernel) (by decide +kernel) w h).1
def lwS_20 : List Cond := [.fieldLink RX12 59 "PutBackModel" "nodeV" "[I", .fieldLink RX12 62 "PutBackModel" "nodeWord" "[I", .fieldLink RX12 65 "PutBackModel" "nodeLong" "[I", .fieldLink RX12 68 "PutBackModel" "nodeSame" "[Z", .fieldLink RX12 71 "PutBackModel" "words" "[I", .fieldLink RX12 74 "PutBackModel" "root" "[I", .fieldLink RX12 77 "PutBackModel" "name" "[J", .fieldLink RX12 80 "PutBackModel" "partFrom" "[I", .fieldLink RX12 83 "PutBackModel" "partLong" "[I", .fieldLink RX12 86 "PutBackModel" "partKey" "[I", .fieldLink RX12 89 "PutBackModel" "partKeyLong" "[I", .fieldLink RX12 92 "PutBackModel" "isTaken" "[Z", .fieldLink RX12 95 "PutBackModel" "outsAt" "[I", .fieldLink RX12 98 "PutBackModel" "outsLong" "[I", .fieldLink RX12 112 "PutBackModel" "slots" "[I", .fieldLink RX12 118 "PutBackModel" "leastAt" "[I", .fieldLink RX12 121 "PutBackModel" "leastLong" "[I", .fieldLink RX12 127 "PutBackModel" "sides" "[I", .fieldLink RX12 130 "PutBackModel" "sideLong" "[I", .fieldLink RX12 133 "PutBackModel" "were" "[I", .fieldLink RX12 136 "PutBackModel" "wereLong" "[I", .fieldLink RX12 139 "PutBackModel" "movedBy" "[I", .instantiable RX1 20, .instantiable RX7 7]
theorem lwS_20_in : ∀ w ∈ lwS_20, w ∈ lw_tbl := fun w h => (goodIn_r lwS_20 [1807, 1808, 1809, 1810, 1812, 1814, 1815, 1817, 1818, 1819, 1820, 1821, 1823, 1824, 1838, 1842, 1843, 1845, 1846, 1847, 1848, 1852, 959, 813] (by decide +kernel) (by decide +kernel) w h).1
def lwS : List Cond := u_ws RX0 TX0 15 ++ (u_ws RX1 TX1 20 ++ (u_ws RX2 TX2 16 ++ (u_ws RX3 TX3 6 ++ (u_ws RX4 TX4 14 ++ (u_ws RX5 TX5 7 ++ (u_ws RX6 TX6 2 ++ (u_ws RX7 TX7 7 ++ (u_ws RX8 TX8 7 ++ (u_ws RX9 TX9 6 ++ (u_ws RX10 TX10 18 ++ (u_ws RX11 TX11 6 ++ (u_ws RX12 TX12 65 ++ (lwS_1 ++ (lwS_2 ++ (lwS_3 ++ (lwS_4 ++ (lwS_5 ++ (lwS_6 ++ (lwS_7 ++ (lwS_8 ++ (lwS_9 ++ (lwS_10 ++ (lwS_11 ++ (lwS_12 ++ (lwS_13 ++ (lwS_14 ++ (lwS_15 ++ (lwS_16 ++ (lwS_17 ++ (lwS_18 ++ (lwS_19 ++ (lwS_20))))))))))))))))))))))))))))))))
theorem wsL_law_in : ∀ w ∈ lwS, w ∈ lw_tbl := fun w h => (List.mem_append.mp h).elim (fun h => lwF_RX0 w h) (fun h => (List.mem_append.mp h).elim (fun h => lwF_RX1 w h) (fun h => (List.mem_append.mp h).elim (fun h => lwF_RX2 w h) (fun h => (List.mem_append.mp h).elim (fun h => lwF_RX3 w h) (fun h => (List.mem_append.mp h).elim (fun h => lwF_RX4 w h) (fun h => (List.mem_append.mp h).elim (fun h => lwF_RX5 w h) (fun h => (List.mem_append.mp h).elim (fun h => lwF_RX6 w h) (fun h => (List.mem_append.mp h).elim (fun h => lwF_RX7 w h) (fun h => (List.mem_append.mp h).elim (fun h => lwF_RX8 w h) (fun h => (List.mem_append.mp h).elim (fun h => lwF_RX9 w h) (fun h => (List.mem_append.mp h).elim (fun h => lwF_RX10 w h) (fun h => (List.mem_append.mp h).elim (fun h => lwF_RX11 w h) (fun h => (List.mem_append.mp h).elim (fun h => lwF_RX12 w h) (fun h => (List.mem_append.mp h).elim (fun h => lwS_1_in w h) (fun h => (List.mem_append.mp h).elim (fun h => lwS_2_in w h) (fun h => (List.mem_append.mp h).elim (fun h => lwS_3_in w h) (fun h => (List.mem_append.mp h).elim (fun h => lwS_4_in w h) (fun h => (List.mem_append.mp h).elim (fun h => lwS_5_in w h) (fun h => (List.mem_append.mp h).elim (fun h => lwS_6_in w h) (fun h => (List.mem_append.mp h).elim (fun h => lwS_7_in w h) (fun h => (List.mem_append.mp h).elim (fun h => lwS_8_in w h) (fun h => (List.mem_append.mp h).elim (fun h => lwS_9_in w h) (fun h => (List.mem_append.mp h).elim (fun h => lwS_10_in w h) (fun h => (List.mem_append.mp h).elim (fun h => lwS_11_in w h) (fun h => (List.mem_append.mp h).elim (fun h => lwS_12_in w h) (fun h => (List.mem_append.mp h).elim (fun h => lwS_13_in w h) (fun h => (List.mem_append.mp h).elim (fun h => lwS_14_in w h) (fun h => (List.mem_append.mp h).elim (fun h => lwS_15_in w h) (fun h => (List.mem_append.mp h).elim (fun h => lwS_16_in w h) (fun h => (List.mem_append.mp h).elim (fun h => lwS_17_in w h) (fun h => (List.mem_append.mp h).elim (fun h => lwS_18_in w h) (fun h => (List.mem_append.mp h).elim (fun h => lwS_19_in w h) (fun h => lwS_20_in w h))))))))))))))))))))))))))))))))
theorem inlX0 : ∀ w ∈ u_ws RX0 TX0 15, w ∈ lwS := fun w h => List.mem_append_left _ h
theorem inlX1 : ∀ w ∈ u_ws RX1 TX1 20, w ∈ lwS := fun w h => List.mem_append_right _ (List.mem_append_left _ h)
theorem inlX2 : ∀ w ∈ u_ws RX2 TX2 16, w ∈ lwS := fun w h => List.mem_append_right _ (List.mem_append_right _ (List.mem_append_left _ h))
theorem inlX3 : ∀ w ∈ u_ws RX3 TX3 6, w ∈ lwS := fun w h => List.mem_append_right _ (List.mem_append_right _ (List.mem_append_right _ (List.mem_append_left _ h)))
theorem inlX4 : ∀ w ∈ u_ws RX4 TX4 14, w ∈ lwS := fun w h => List.mem_append_right _ (List.mem_append_right _ (List.mem_append_right _ (List.mem_append_right _ (List.mem_append_left _ h))))
theorem inlX5 : ∀ w ∈ u_ws RX5 TX5 7, w ∈ lwS := fun w h => List.mem_append_right _ (List.mem_append_right _ (List.mem_append_right _ (List.mem_append_right _ (List.mem_append_right _ (List.mem_append_left _ h)))))
theorem inlX6 : ∀ w ∈ u_ws RX6 TX6 2, w ∈ lwS := fun w h => List.mem_append_right _ (List.mem_append_right _ (List.mem_append_right _ (List.mem_append_right _ (List.mem_append_right _ (List.mem_append_right _ (List.mem_append_left _ h))))))
theorem inlX7 : ∀ w ∈ u_ws RX7 TX7 7, w ∈ lwS := fun w h => List.mem_append_right _ (List.mem_append_right _ (List.mem_append_right _ (List.mem_append_right _ (List.mem_append_right _ (List.mem_append_right _ (List.mem_append_right _ (List.mem_append_left _ h)))))))
theorem inlX8 : ∀ w ∈ u_ws RX8 TX8 7, w ∈ lwS := fun w h => List.mem_append_right _ (List.mem_append_right _ (List.mem_append_right _ (List.mem_append_right _ (List.mem_append_right _ (List.mem_append_right _ (List.mem_append_right _ (List.mem_append_right _ (List.mem_append_left _ h))))))))
theorem inlX9 : ∀ w ∈ u_ws RX9 TX9 6, w ∈ lwS := fun w h => List.mem_append_right _ (List.mem_append_right _ (List.mem_append_right _ (List.mem_append_right _ (List.mem_append_right _ (List.mem_append_right _ (List.mem_append_right _ (List.mem_append_right _ (List.mem_append_right _ (List.mem_append_left _ h)))))))))
theorem inlX10 : ∀ w ∈ u_ws RX10 TX10 18, w ∈ lwS := fun w h => List.mem_append_right _ (List.mem_append_right _ (List.mem_append_right _ (List.mem_append_right _ (List.mem_append_right _ (List.mem_append_right _ (List.mem_append_right _ (List.mem_append_right _ (List.mem_append_right _ (List.mem_append_right _ (List.mem_append_left _ h))))))))))
theorem inlX11 : ∀ w ∈ u_ws RX11 TX11 6, w ∈ lwS := fun w h => List.mem_append_right _ (List.mem_append_right _ (List.mem_append_right _ (List.mem_append_right _ (List.mem_append_right _ (List.mem_append_right _ (List.mem_append_right _ (List.mem_append_right _ (List.mem_append_right _ (List.mem_append_right _ (List.mem_append_right _ (List.mem_append_left _ h)))))))))))
theorem inlX12 : ∀ w ∈ u_ws RX12 TX12 65, w ∈ lwS := fun w h => List.mem_append_right _ (List.mem_append_right _ (List.mem_append_right _ (List.mem_append_right _ (List.mem_append_right _ (List.mem_append_right _ (List.mem_append_right _ (List.mem_append_right _ (List.mem_append_right _ (List.mem_append_right _ (List.mem_append_right _ (List.mem_append_right _ (List.mem_append_left _ h))))))))))))
abbrev cL_law : ByteArray := code
theorem dL_law_0 : decode cL_law 0 = .ok (.new 7, 3) := by decide +kernel
theorem dL_law_3 : decode cL_law 3 = .ok (.dup, 1) := by decide +kernel
theorem dL_law_4 : decode cL_law 4 = .ok (.invokespecial 9, 3) := by decide +kernel
theorem dL_law_7 : decode cL_law 7 = .ok (.astore_n 1, 1) := by decide +kernel
theorem dL_law_8 : decode cL_law 8 = .ok (.new 10, 3) := by decide +kernel
theorem dL_law_11 : decode cL_law 11 = .ok (.dup, 1) := by decide +kernel
theorem dL_law_12 : decode cL_law 12 = .ok (.invokespecial 12, 3) := by decide +kernel
theorem dL_law_15 : decode cL_law 15 = .ok (.astore_n 2, 1) := by decide +kernel
theorem dL_law_16 : decode cL_law 16 = .ok (.iconst 0, 1) := by decide +kernel
theorem dL_law_17 : decode cL_law 17 = .ok (.istore_n 3, 1) := by decide +kernel
theorem dL_law_18 : decode cL_law 18 = .ok (.iload_n 3, 1) := by decide +kernel
theorem dL_law_19 : decode cL_law 19 = .ok (.aload_n 0, 1) := by decide +kernel
theorem dL_law_20 : decode cL_law 20 = .ok (.arraylength, 1) := by decide +kernel
theorem dL_law_21 : decode cL_law 21 = .ok (.bipush 6, 2) := by decide +kernel
theorem dL_law_23 : decode cL_law 23 = .ok (.isub, 1) := by decide +kernel
theorem dL_law_24 : decode cL_law 24 = .ok (.if_icmp .gt 1200, 3) := by decide +kernel
theorem dL_law_27 : decode cL_law 27 = .ok (.aload_n 0, 1) := by decide +kernel
theorem dL_law_28 : decode cL_law 28 = .ok (.iload_n 3, 1) := by decide +kernel
theorem dL_law_29 : decode cL_law 29 = .ok (.iaload, 1) := by decide +kernel
theorem dL_law_30 : decode cL_law 30 = .ok (.bipush 31, 2) := by decide +kernel
theorem dL_law_32 : decode cL_law 32 = .ok (.iand, 1) := by decide +kernel
theorem dL_law_33 : decode cL_law 33 = .ok (.tableswitch 1185 0 26 #[123, 186, 209, 222, 245, 268, 301, 344, 387, 440, 483, 527, 580, 633, 676, 729, 762, 815, 868, 911, 944, 997, 1010, 1043, 1066, 1109, 1162], 123) := by decide +kernel
theorem dL_law_156 : decode cL_law 156 = .ok (.aload_n 1, 1) := by decide +kernel
theorem dL_law_157 : decode cL_law 157 = .ok (.aload_n 0, 1) := by decide +kernel
theorem dL_law_158 : decode cL_law 158 = .ok (.iload_n 3, 1) := by decide +kernel
theorem dL_law_159 : decode cL_law 159 = .ok (.iconst 1, 1) := by decide +kernel
theorem dL_law_160 : decode cL_law 160 = .ok (.iadd, 1) := by decide +kernel
theorem dL_law_161 : decode cL_law 161 = .ok (.iaload, 1) := by decide +kernel
theorem dL_law_162 : decode cL_law 162 = .ok (.aload_n 0, 1) := by decide +kernel
theorem dL_law_163 : decode cL_law 163 = .ok (.iload_n 3, 1) := by decide +kernel
theorem dL_law_164 : decode cL_law 164 = .ok (.iconst 2, 1) := by decide +kernel
theorem dL_law_165 : decode cL_law 165 = .ok (.iadd, 1) := by decide +kernel
theorem dL_law_166 : decode cL_law 166 = .ok (.iaload, 1) := by decide +kernel
theorem dL_law_167 : decode cL_law 167 = .ok (.aload_n 0, 1) := by decide +kernel
theorem dL_law_168 : decode cL_law 168 = .ok (.iload_n 3, 1) := by decide +kernel
theorem dL_law_169 : decode cL_law 169 = .ok (.iconst 3, 1) := by decide +kernel
theorem dL_law_170 : decode cL_law 170 = .ok (.iadd, 1) := by decide +kernel
theorem dL_law_171 : decode cL_law 171 = .ok (.iaload, 1) := by decide +kernel
theorem dL_law_172 : decode cL_law 172 = .ok (.aload_n 0, 1) := by decide +kernel
theorem dL_law_173 : decode cL_law 173 = .ok (.iload_n 3, 1) := by decide +kernel
theorem dL_law_174 : decode cL_law 174 = .ok (.iconst 4, 1) := by decide +kernel
theorem dL_law_175 : decode cL_law 175 = .ok (.iadd, 1) := by decide +kernel
theorem dL_law_176 : decode cL_law 176 = .ok (.iaload, 1) := by decide +kernel
theorem dL_law_177 : decode cL_law 177 = .ok (.aload_n 0, 1) := by decide +kernel
theorem dL_law_178 : decode cL_law 178 = .ok (.iload_n 3, 1) := by decide +kernel
theorem dL_law_179 : decode cL_law 179 = .ok (.iconst 5, 1) := by decide +kernel
theorem dL_law_180 : decode cL_law 180 = .ok (.iadd, 1) := by decide +kernel
theorem dL_law_181 : decode cL_law 181 = .ok (.iaload, 1) := by decide +kernel
theorem dL_law_182 : decode cL_law 182 = .ok (.invokevirtual 13, 3) := by decide +kernel
theorem dL_law_185 : decode cL_law 185 = .ok (.aload_n 2, 1) := by decide +kernel
theorem dL_law_186 : decode cL_law 186 = .ok (.aload_n 0, 1) := by decide +kernel
theorem dL_law_187 : decode cL_law 187 = .ok (.iload_n 3, 1) := by decide +kernel
theorem dL_law_188 : decode cL_law 188 = .ok (.iconst 1, 1) := by decide +kernel
theorem dL_law_189 : decode cL_law 189 = .ok (.iadd, 1) := by decide +kernel
theorem dL_law_190 : decode cL_law 190 = .ok (.iaload, 1) := by decide +kernel
theorem dL_law_191 : decode cL_law 191 = .ok (.aload_n 0, 1) := by decide +kernel
theorem dL_law_192 : decode cL_law 192 = .ok (.iload_n 3, 1) := by decide +kernel
theorem dL_law_193 : decode cL_law 193 = .ok (.iconst 2, 1) := by decide +kernel
theorem dL_law_194 : decode cL_law 194 = .ok (.iadd, 1) := by decide +kernel
theorem dL_law_195 : decode cL_law 195 = .ok (.iaload, 1) := by decide +kernel
theorem dL_law_196 : decode cL_law 196 = .ok (.aload_n 0, 1) := by decide +kernel
theorem dL_law_197 : decode cL_law 197 = .ok (.iload_n 3, 1) := by decide +kernel
theorem dL_law_198 : decode cL_law 198 = .ok (.iconst 3, 1) := by decide +kernel
theorem dL_law_199 : decode cL_law 199 = .ok (.iadd, 1) := by decide +kernel
theorem dL_law_200 : decode cL_law 200 = .ok (.iaload, 1) := by decide +kernel
theorem dL_law_201 : decode cL_law 201 = .ok (.aload_n 0, 1) := by decide +kernel
theorem dL_law_202 : decode cL_law 202 = .ok (.iload_n 3, 1) := by decide +kernel
theorem dL_law_203 : decode cL_law 203 = .ok (.iconst 4, 1) := by decide +kernel
theorem dL_law_204 : decode cL_law 204 = .ok (.iadd, 1) := by decide +kernel
theorem dL_law_205 : decode cL_law 205 = .ok (.iaload, 1) := by decide +kernel
theorem dL_law_206 : decode cL_law 206 = .ok (.aload_n 0, 1) := by decide +kernel
theorem dL_law_207 : decode cL_law 207 = .ok (.iload_n 3, 1) := by decide +kernel
theorem dL_law_208 : decode cL_law 208 = .ok (.iconst 5, 1) := by decide +kernel
theorem dL_law_209 : decode cL_law 209 = .ok (.iadd, 1) := by decide +kernel
theorem dL_law_210 : decode cL_law 210 = .ok (.iaload, 1) := by decide +kernel
theorem dL_law_211 : decode cL_law 211 = .ok (.invokevirtual 17, 3) := by decide +kernel
theorem dL_law_214 : decode cL_law 214 = .ok (.if_icmp .eq 1004, 3) := by decide +kernel
theorem dL_law_219 : decode cL_law 219 = .ok (.aload_n 1, 1) := by decide +kernel
theorem dL_law_220 : decode cL_law 220 = .ok (.aload_n 0, 1) := by decide +kernel
theorem dL_law_221 : decode cL_law 221 = .ok (.iload_n 3, 1) := by decide +kernel
theorem dL_law_222 : decode cL_law 222 = .ok (.iconst 1, 1) := by decide +kernel
theorem dL_law_223 : decode cL_law 223 = .ok (.iadd, 1) := by decide +kernel
theorem dL_law_224 : decode cL_law 224 = .ok (.iaload, 1) := by decide +kernel
theorem dL_law_225 : decode cL_law 225 = .ok (.invokevirtual 18, 3) := by decide +kernel
theorem dL_law_228 : decode cL_law 228 = .ok (.aload_n 2, 1) := by decide +kernel
theorem dL_law_229 : decode cL_law 229 = .ok (.aload_n 0, 1) := by decide +kernel
theorem dL_law_230 : decode cL_law 230 = .ok (.iload_n 3, 1) := by decide +kernel
theorem dL_law_231 : decode cL_law 231 = .ok (.iconst 1, 1) := by decide +kernel
theorem dL_law_232 : decode cL_law 232 = .ok (.iadd, 1) := by decide +kernel
theorem dL_law_233 : decode cL_law 233 = .ok (.iaload, 1) := by decide +kernel
theorem dL_law_234 : decode cL_law 234 = .ok (.invokevirtual 22, 3) := by decide +kernel
theorem dL_law_237 : decode cL_law 237 = .ok (.if_icmp .eq 981, 3) := by decide +kernel
theorem dL_law_242 : decode cL_law 242 = .ok (.aload_n 1, 1) := by decide +kernel
theorem dL_law_243 : decode cL_law 243 = .ok (.invokevirtual 23, 3) := by decide +kernel
theorem dL_law_246 : decode cL_law 246 = .ok (.aload_n 2, 1) := by decide +kernel
theorem dL_law_247 : decode cL_law 247 = .ok (.invokevirtual 27, 3) := by decide +kernel
theorem dL_law_250 : decode cL_law 250 = .ok (.if_icmp .eq 968, 3) := by decide +kernel
theorem dL_law_255 : decode cL_law 255 = .ok (.aload_n 1, 1) := by decide +kernel
theorem dL_law_256 : decode cL_law 256 = .ok (.aload_n 0, 1) := by decide +kernel
theorem dL_law_257 : decode cL_law 257 = .ok (.iload_n 3, 1) := by decide +kernel
theorem dL_law_258 : decode cL_law 258 = .ok (.iconst 1, 1) := by decide +kernel
theorem dL_law_259 : decode cL_law 259 = .ok (.iadd, 1) := by decide +kernel
theorem dL_law_260 : decode cL_law 260 = .ok (.iaload, 1) := by decide +kernel
theorem dL_law_261 : decode cL_law 261 = .ok (.invokevirtual 28, 3) := by decide +kernel
theorem dL_law_264 : decode cL_law 264 = .ok (.aload_n 2, 1) := by decide +kernel
theorem dL_law_265 : decode cL_law 265 = .ok (.aload_n 0, 1) := by decide +kernel
theorem dL_law_266 : decode cL_law 266 = .ok (.iload_n 3, 1) := by decide +kernel
theorem dL_law_267 : decode cL_law 267 = .ok (.iconst 1, 1) := by decide +kernel
theorem dL_law_268 : decode cL_law 268 = .ok (.iadd, 1) := by decide +kernel
theorem dL_law_269 : decode cL_law 269 = .ok (.iaload, 1) := by decide +kernel
theorem dL_law_270 : decode cL_law 270 = .ok (.invokevirtual 32, 3) := by decide +kernel
theorem dL_law_273 : decode cL_law 273 = .ok (.if_icmp .eq 945, 3) := by decide +kernel
theorem dL_law_278 : decode cL_law 278 = .ok (.aload_n 1, 1) := by decide +kernel
theorem dL_law_279 : decode cL_law 279 = .ok (.aload_n 0, 1) := by decide +kernel
theorem dL_law_280 : decode cL_law 280 = .ok (.iload_n 3, 1) := by decide +kernel
theorem dL_law_281 : decode cL_law 281 = .ok (.iconst 1, 1) := by decide +kernel
theorem dL_law_282 : decode cL_law 282 = .ok (.iadd, 1) := by decide +kernel
theorem dL_law_283 : decode cL_law 283 = .ok (.iaload, 1) := by decide +kernel
theorem dL_law_284 : decode cL_law 284 = .ok (.invokevirtual 33, 3) := by decide +kernel
theorem dL_law_287 : decode cL_law 287 = .ok (.aload_n 2, 1) := by decide +kernel
theorem dL_law_288 : decode cL_law 288 = .ok (.aload_n 0, 1) := by decide +kernel
theorem dL_law_289 : decode cL_law 289 = .ok (.iload_n 3, 1) := by decide +kernel
theorem dL_law_290 : decode cL_law 290 = .ok (.iconst 1, 1) := by decide +kernel
theorem dL_law_291 : decode cL_law 291 = .ok (.iadd, 1) := by decide +kernel
theorem dL_law_292 : decode cL_law 292 = .ok (.iaload, 1) := by decide +kernel
theorem dL_law_293 : decode cL_law 293 = .ok (.invokevirtual 36, 3) := by decide +kernel
theorem dL_law_296 : decode cL_law 296 = .ok (.if_icmp .eq 922, 3) := by decide +kernel
theorem dL_law_301 : decode cL_law 301 = .ok (.aload_n 1, 1) := by decide +kernel
theorem dL_law_302 : decode cL_law 302 = .ok (.aload_n 0, 1) := by decide +kernel
theorem dL_law_303 : decode cL_law 303 = .ok (.iload_n 3, 1) := by decide +kernel
theorem dL_law_304 : decode cL_law 304 = .ok (.iconst 1, 1) := by decide +kernel
theorem dL_law_305 : decode cL_law 305 = .ok (.iadd, 1) := by decide +kernel
theorem dL_law_306 : decode cL_law 306 = .ok (.iaload, 1) := by decide +kernel
theorem dL_law_307 : decode cL_law 307 = .ok (.aload_n 0, 1) := by decide +kernel
theorem dL_law_308 : decode cL_law 308 = .ok (.iload_n 3, 1) := by decide +kernel
theorem dL_law_309 : decode cL_law 309 = .ok (.iconst 2, 1) := by decide +kernel
theorem dL_law_310 : decode cL_law 310 = .ok (.iadd, 1) := by decide +kernel
theorem dL_law_311 : decode cL_law 311 = .ok (.iaload, 1) := by decide +kernel
theorem dL_law_312 : decode cL_law 312 = .ok (.invokevirtual 37, 3) := by decide +kernel
theorem dL_law_315 : decode cL_law 315 = .ok (.aload_n 2, 1) := by decide +kernel
theorem dL_law_316 : decode cL_law 316 = .ok (.aload_n 0, 1) := by decide +kernel
theorem dL_law_317 : decode cL_law 317 = .ok (.iload_n 3, 1) := by decide +kernel
theorem dL_law_318 : decode cL_law 318 = .ok (.iconst 1, 1) := by decide +kernel
theorem dL_law_319 : decode cL_law 319 = .ok (.iadd, 1) := by decide +kernel
theorem dL_law_320 : decode cL_law 320 = .ok (.iaload, 1) := by decide +kernel
theorem dL_law_321 : decode cL_law 321 = .ok (.aload_n 0, 1) := by decide +kernel
theorem dL_law_322 : decode cL_law 322 = .ok (.iload_n 3, 1) := by decide +kernel
theorem dL_law_323 : decode cL_law 323 = .ok (.iconst 2, 1) := by decide +kernel
theorem dL_law_324 : decode cL_law 324 = .ok (.iadd, 1) := by decide +kernel
theorem dL_law_325 : decode cL_law 325 = .ok (.iaload, 1) := by decide +kernel
theorem dL_law_326 : decode cL_law 326 = .ok (.invokevirtual 41, 3) := by decide +kernel
theorem dL_law_329 : decode cL_law 329 = .ok (.if_icmp .eq 889, 3) := by decide +kernel
theorem dL_law_334 : decode cL_law 334 = .ok (.aload_n 1, 1) := by decide +kernel
theorem dL_law_335 : decode cL_law 335 = .ok (.aload_n 0, 1) := by decide +kernel
theorem dL_law_336 : decode cL_law 336 = .ok (.iload_n 3, 1) := by decide +kernel
theorem dL_law_337 : decode cL_law 337 = .ok (.iconst 1, 1) := by decide +kernel
theorem dL_law_338 : decode cL_law 338 = .ok (.iadd, 1) := by decide +kernel
theorem dL_law_339 : decode cL_law 339 = .ok (.iaload, 1) := by decide +kernel
theorem dL_law_340 : decode cL_law 340 = .ok (.aload_n 0, 1) := by decide +kernel
theorem dL_law_341 : decode cL_law 341 = .ok (.iload_n 3, 1) := by decide +kernel
theorem dL_law_342 : decode cL_law 342 = .ok (.iconst 2, 1) := by decide +kernel
theorem dL_law_343 : decode cL_law 343 = .ok (.iadd, 1) := by decide +kernel
theorem dL_law_344 : decode cL_law 344 = .ok (.iaload, 1) := by decide +kernel
theorem dL_law_345 : decode cL_law 345 = .ok (.aload_n 0, 1) := by decide +kernel
theorem dL_law_346 : decode cL_law 346 = .ok (.iload_n 3, 1) := by decide +kernel
theorem dL_law_347 : decode cL_law 347 = .ok (.iconst 3, 1) := by decide +kernel
theorem dL_law_348 : decode cL_law 348 = .ok (.iadd, 1) := by decide +kernel
theorem dL_law_349 : decode cL_law 349 = .ok (.iaload, 1) := by decide +kernel
theorem dL_law_350 : decode cL_law 350 = .ok (.invokevirtual 42, 3) := by decide +kernel
theorem dL_law_353 : decode cL_law 353 = .ok (.aload_n 2, 1) := by decide +kernel
theorem dL_law_354 : decode cL_law 354 = .ok (.aload_n 0, 1) := by decide +kernel
theorem dL_law_355 : decode cL_law 355 = .ok (.iload_n 3, 1) := by decide +kernel
theorem dL_law_356 : decode cL_law 356 = .ok (.iconst 1, 1) := by decide +kernel
theorem dL_law_357 : decode cL_law 357 = .ok (.iadd, 1) := by decide +kernel
theorem dL_law_358 : decode cL_law 358 = .ok (.iaload, 1) := by decide +kernel
theorem dL_law_359 : decode cL_law 359 = .ok (.aload_n 0, 1) := by decide +kernel
theorem dL_law_360 : decode cL_law 360 = .ok (.iload_n 3, 1) := by decide +kernel
theorem dL_law_361 : decode cL_law 361 = .ok (.iconst 2, 1) := by decide +kernel
theorem dL_law_362 : decode cL_law 362 = .ok (.iadd, 1) := by decide +kernel
theorem dL_law_363 : decode cL_law 363 = .ok (.iaload, 1) := by decide +kernel
theorem dL_law_364 : decode cL_law 364 = .ok (.aload_n 0, 1) := by decide +kernel
theorem dL_law_365 : decode cL_law 365 = .ok (.iload_n 3, 1) := by decide +kernel
theorem dL_law_366 : decode cL_law 366 = .ok (.iconst 3, 1) := by decide +kernel
theorem dL_law_367 : decode cL_law 367 = .ok (.iadd, 1) := by decide +kernel
theorem dL_law_368 : decode cL_law 368 = .ok (.iaload, 1) := by decide +kernel
theorem dL_law_369 : decode cL_law 369 = .ok (.invokevirtual 46, 3) := by decide +kernel
theorem dL_law_372 : decode cL_law 372 = .ok (.if_icmp .eq 846, 3) := by decide +kernel
theorem dL_law_377 : decode cL_law 377 = .ok (.aload_n 1, 1) := by decide +kernel
theorem dL_law_378 : decode cL_law 378 = .ok (.aload_n 0, 1) := by decide +kernel
theorem dL_law_379 : decode cL_law 379 = .ok (.iload_n 3, 1) := by decide +kernel
theorem dL_law_380 : decode cL_law 380 = .ok (.iconst 1, 1) := by decide +kernel
theorem dL_law_381 : decode cL_law 381 = .ok (.iadd, 1) := by decide +kernel
theorem dL_law_382 : decode cL_law 382 = .ok (.iaload, 1) := by decide +kernel
theorem dL_law_383 : decode cL_law 383 = .ok (.aload_n 0, 1) := by decide +kernel
theorem dL_law_384 : decode cL_law 384 = .ok (.iload_n 3, 1) := by decide +kernel
theorem dL_law_385 : decode cL_law 385 = .ok (.iconst 2, 1) := by decide +kernel
theorem dL_law_386 : decode cL_law 386 = .ok (.iadd, 1) := by decide +kernel
theorem dL_law_387 : decode cL_law 387 = .ok (.iaload, 1) := by decide +kernel
theorem dL_law_388 : decode cL_law 388 = .ok (.aload_n 0, 1) := by decide +kernel
theorem dL_law_389 : decode cL_law 389 = .ok (.iload_n 3, 1) := by decide +kernel
theorem dL_law_390 : decode cL_law 390 = .ok (.iconst 3, 1) := by decide +kernel
theorem dL_law_391 : decode cL_law 391 = .ok (.iadd, 1) := by decide +kernel
theorem dL_law_392 : decode cL_law 392 = .ok (.iaload, 1) := by decide +kernel
theorem dL_law_393 : decode cL_law 393 = .ok (.invokevirtual 47, 3) := by decide +kernel
theorem dL_law_396 : decode cL_law 396 = .ok (.aload_n 2, 1) := by decide +kernel
theorem dL_law_397 : decode cL_law 397 = .ok (.aload_n 0, 1) := by decide +kernel
theorem dL_law_398 : decode cL_law 398 = .ok (.iload_n 3, 1) := by decide +kernel
theorem dL_law_399 : decode cL_law 399 = .ok (.iconst 1, 1) := by decide +kernel
theorem dL_law_400 : decode cL_law 400 = .ok (.iadd, 1) := by decide +kernel
theorem dL_law_401 : decode cL_law 401 = .ok (.iaload, 1) := by decide +kernel
theorem dL_law_402 : decode cL_law 402 = .ok (.aload_n 0, 1) := by decide +kernel
theorem dL_law_403 : decode cL_law 403 = .ok (.iload_n 3, 1) := by decide +kernel
theorem dL_law_404 : decode cL_law 404 = .ok (.iconst 2, 1) := by decide +kernel
theorem dL_law_405 : decode cL_law 405 = .ok (.iadd, 1) := by decide +kernel
theorem dL_law_406 : decode cL_law 406 = .ok (.iaload, 1) := by decide +kernel
theorem dL_law_407 : decode cL_law 407 = .ok (.aload_n 0, 1) := by decide +kernel
theorem dL_law_408 : decode cL_law 408 = .ok (.iload_n 3, 1) := by decide +kernel
theorem dL_law_409 : decode cL_law 409 = .ok (.iconst 3, 1) := by decide +kernel
theorem dL_law_410 : decode cL_law 410 = .ok (.iadd, 1) := by decide +kernel
theorem dL_law_411 : decode cL_law 411 = .ok (.iaload, 1) := by decide +kernel
theorem dL_law_412 : decode cL_law 412 = .ok (.invokevirtual 50, 3) := by decide +kernel
theorem dL_law_415 : decode cL_law 415 = .ok (.if_icmp .eq 803, 3) := by decide +kernel
theorem dL_law_420 : decode cL_law 420 = .ok (.aload_n 1, 1) := by decide +kernel
theorem dL_law_421 : decode cL_law 421 = .ok (.aload_n 0, 1) := by decide +kernel
theorem dL_law_422 : decode cL_law 422 = .ok (.iload_n 3, 1) := by decide +kernel
theorem dL_law_423 : decode cL_law 423 = .ok (.iconst 1, 1) := by decide +kernel
theorem dL_law_424 : decode cL_law 424 = .ok (.iadd, 1) := by decide +kernel
theorem dL_law_425 : decode cL_law 425 = .ok (.iaload, 1) := by decide +kernel
theorem dL_law_426 : decode cL_law 426 = .ok (.aload_n 0, 1) := by decide +kernel
theorem dL_law_427 : decode cL_law 427 = .ok (.iload_n 3, 1) := by decide +kernel
theorem dL_law_428 : decode cL_law 428 = .ok (.iconst 2, 1) := by decide +kernel
theorem dL_law_429 : decode cL_law 429 = .ok (.iadd, 1) := by decide +kernel
theorem dL_law_430 : decode cL_law 430 = .ok (.iaload, 1) := by decide +kernel
theorem dL_law_431 : decode cL_law 431 = .ok (.aload_n 0, 1) := by decide +kernel
theorem dL_law_432 : decode cL_law 432 = .ok (.iload_n 3, 1) := by decide +kernel
theorem dL_law_433 : decode cL_law 433 = .ok (.iconst 3, 1) := by decide +kernel
theorem dL_law_434 : decode cL_law 434 = .ok (.iadd, 1) := by decide +kernel
theorem dL_law_435 : decode cL_law 435 = .ok (.iaload, 1) := by decide +kernel
theorem dL_law_436 : decode cL_law 436 = .ok (.aload_n 0, 1) := by decide +kernel
theorem dL_law_437 : decode cL_law 437 = .ok (.iload_n 3, 1) := by decide +kernel
theorem dL_law_438 : decode cL_law 438 = .ok (.iconst 4, 1) := by decide +kernel
theorem dL_law_439 : decode cL_law 439 = .ok (.iadd, 1) := by decide +kernel
theorem dL_law_440 : decode cL_law 440 = .ok (.iaload, 1) := by decide +kernel
theorem dL_law_441 : decode cL_law 441 = .ok (.invokevirtual 51, 3) := by decide +kernel
theorem dL_law_444 : decode cL_law 444 = .ok (.aload_n 2, 1) := by decide +kernel
theorem dL_law_445 : decode cL_law 445 = .ok (.aload_n 0, 1) := by decide +kernel
theorem dL_law_446 : decode cL_law 446 = .ok (.iload_n 3, 1) := by decide +kernel
theorem dL_law_447 : decode cL_law 447 = .ok (.iconst 1, 1) := by decide +kernel
theorem dL_law_448 : decode cL_law 448 = .ok (.iadd, 1) := by decide +kernel
theorem dL_law_449 : decode cL_law 449 = .ok (.iaload, 1) := by decide +kernel
theorem dL_law_450 : decode cL_law 450 = .ok (.aload_n 0, 1) := by decide +kernel
theorem dL_law_451 : decode cL_law 451 = .ok (.iload_n 3, 1) := by decide +kernel
theorem dL_law_452 : decode cL_law 452 = .ok (.iconst 2, 1) := by decide +kernel
theorem dL_law_453 : decode cL_law 453 = .ok (.iadd, 1) := by decide +kernel
theorem dL_law_454 : decode cL_law 454 = .ok (.iaload, 1) := by decide +kernel
theorem dL_law_455 : decode cL_law 455 = .ok (.aload_n 0, 1) := by decide +kernel
theorem dL_law_456 : decode cL_law 456 = .ok (.iload_n 3, 1) := by decide +kernel
theorem dL_law_457 : decode cL_law 457 = .ok (.iconst 3, 1) := by decide +kernel
theorem dL_law_458 : decode cL_law 458 = .ok (.iadd, 1) := by decide +kernel
theorem dL_law_459 : decode cL_law 459 = .ok (.iaload, 1) := by decide +kernel
theorem dL_law_460 : decode cL_law 460 = .ok (.aload_n 0, 1) := by decide +kernel
theorem dL_law_461 : decode cL_law 461 = .ok (.iload_n 3, 1) := by decide +kernel
theorem dL_law_462 : decode cL_law 462 = .ok (.iconst 4, 1) := by decide +kernel
theorem dL_law_463 : decode cL_law 463 = .ok (.iadd, 1) := by decide +kernel
theorem dL_law_464 : decode cL_law 464 = .ok (.iaload, 1) := by decide +kernel
theorem dL_law_465 : decode cL_law 465 = .ok (.invokevirtual 55, 3) := by decide +kernel
theorem dL_law_468 : decode cL_law 468 = .ok (.if_icmp .eq 750, 3) := by decide +kernel
theorem dL_law_473 : decode cL_law 473 = .ok (.aload_n 1, 1) := by decide +kernel
theorem dL_law_474 : decode cL_law 474 = .ok (.aload_n 0, 1) := by decide +kernel
theorem dL_law_475 : decode cL_law 475 = .ok (.iload_n 3, 1) := by decide +kernel
theorem dL_law_476 : decode cL_law 476 = .ok (.iconst 1, 1) := by decide +kernel
theorem dL_law_477 : decode cL_law 477 = .ok (.iadd, 1) := by decide +kernel
theorem dL_law_478 : decode cL_law 478 = .ok (.iaload, 1) := by decide +kernel
theorem dL_law_479 : decode cL_law 479 = .ok (.aload_n 0, 1) := by decide +kernel
theorem dL_law_480 : decode cL_law 480 = .ok (.iload_n 3, 1) := by decide +kernel
theorem dL_law_481 : decode cL_law 481 = .ok (.iconst 2, 1) := by decide +kernel
theorem dL_law_482 : decode cL_law 482 = .ok (.iadd, 1) := by decide +kernel
theorem dL_law_483 : decode cL_law 483 = .ok (.iaload, 1) := by decide +kernel
theorem dL_law_484 : decode cL_law 484 = .ok (.aload_n 0, 1) := by decide +kernel
theorem dL_law_485 : decode cL_law 485 = .ok (.iload_n 3, 1) := by decide +kernel
theorem dL_law_486 : decode cL_law 486 = .ok (.iconst 3, 1) := by decide +kernel
theorem dL_law_487 : decode cL_law 487 = .ok (.iadd, 1) := by decide +kernel
theorem dL_law_488 : decode cL_law 488 = .ok (.iaload, 1) := by decide +kernel
theorem dL_law_489 : decode cL_law 489 = .ok (.invokevirtual 56, 3) := by decide +kernel
theorem dL_law_492 : decode cL_law 492 = .ok (.aload_n 2, 1) := by decide +kernel
theorem dL_law_493 : decode cL_law 493 = .ok (.aload_n 0, 1) := by decide +kernel
theorem dL_law_494 : decode cL_law 494 = .ok (.iload_n 3, 1) := by decide +kernel
theorem dL_law_495 : decode cL_law 495 = .ok (.iconst 1, 1) := by decide +kernel
theorem dL_law_496 : decode cL_law 496 = .ok (.iadd, 1) := by decide +kernel
theorem dL_law_497 : decode cL_law 497 = .ok (.iaload, 1) := by decide +kernel
theorem dL_law_498 : decode cL_law 498 = .ok (.aload_n 0, 1) := by decide +kernel
theorem dL_law_499 : decode cL_law 499 = .ok (.iload_n 3, 1) := by decide +kernel
theorem dL_law_500 : decode cL_law 500 = .ok (.iconst 2, 1) := by decide +kernel
theorem dL_law_501 : decode cL_law 501 = .ok (.iadd, 1) := by decide +kernel
theorem dL_law_502 : decode cL_law 502 = .ok (.iaload, 1) := by decide +kernel
theorem dL_law_503 : decode cL_law 503 = .ok (.aload_n 0, 1) := by decide +kernel
theorem dL_law_504 : decode cL_law 504 = .ok (.iload_n 3, 1) := by decide +kernel
theorem dL_law_505 : decode cL_law 505 = .ok (.iconst 3, 1) := by decide +kernel
theorem dL_law_506 : decode cL_law 506 = .ok (.iadd, 1) := by decide +kernel
theorem dL_law_507 : decode cL_law 507 = .ok (.iaload, 1) := by decide +kernel
theorem dL_law_508 : decode cL_law 508 = .ok (.invokevirtual 59, 3) := by decide +kernel
theorem dL_law_511 : decode cL_law 511 = .ok (.if_icmp .eq 707, 3) := by decide +kernel
theorem dL_law_516 : decode cL_law 516 = .ok (.aload_n 1, 1) := by decide +kernel
theorem dL_law_517 : decode cL_law 517 = .ok (.aload_n 0, 1) := by decide +kernel
theorem dL_law_518 : decode cL_law 518 = .ok (.iload_n 3, 1) := by decide +kernel
theorem dL_law_519 : decode cL_law 519 = .ok (.iconst 1, 1) := by decide +kernel
theorem dL_law_520 : decode cL_law 520 = .ok (.iadd, 1) := by decide +kernel
theorem dL_law_521 : decode cL_law 521 = .ok (.iaload, 1) := by decide +kernel
theorem dL_law_522 : decode cL_law 522 = .ok (.aload_n 0, 1) := by decide +kernel
theorem dL_law_523 : decode cL_law 523 = .ok (.iload_n 3, 1) := by decide +kernel
theorem dL_law_524 : decode cL_law 524 = .ok (.iconst 2, 1) := by decide +kernel
theorem dL_law_525 : decode cL_law 525 = .ok (.iadd, 1) := by decide +kernel
theorem dL_law_526 : decode cL_law 526 = .ok (.iaload, 1) := by decide +kernel
theorem dL_law_527 : decode cL_law 527 = .ok (.aload_n 0, 1) := by decide +kernel
theorem dL_law_528 : decode cL_law 528 = .ok (.iload_n 3, 1) := by decide +kernel
theorem dL_law_529 : decode cL_law 529 = .ok (.iconst 3, 1) := by decide +kernel
theorem dL_law_530 : decode cL_law 530 = .ok (.iadd, 1) := by decide +kernel
theorem dL_law_531 : decode cL_law 531 = .ok (.iaload, 1) := by decide +kernel
theorem dL_law_532 : decode cL_law 532 = .ok (.invokevirtual 60, 3) := by decide +kernel
theorem dL_law_535 : decode cL_law 535 = .ok (.aload_n 2, 1) := by decide +kernel
theorem dL_law_536 : decode cL_law 536 = .ok (.aload_n 0, 1) := by decide +kernel
theorem dL_law_537 : decode cL_law 537 = .ok (.iload_n 3, 1) := by decide +kernel
theorem dL_law_538 : decode cL_law 538 = .ok (.iconst 1, 1) := by decide +kernel
theorem dL_law_539 : decode cL_law 539 = .ok (.iadd, 1) := by decide +kernel
theorem dL_law_540 : decode cL_law 540 = .ok (.iaload, 1) := by decide +kernel
theorem dL_law_541 : decode cL_law 541 = .ok (.aload_n 0, 1) := by decide +kernel
theorem dL_law_542 : decode cL_law 542 = .ok (.iload_n 3, 1) := by decide +kernel
theorem dL_law_543 : decode cL_law 543 = .ok (.iconst 2, 1) := by decide +kernel
theorem dL_law_544 : decode cL_law 544 = .ok (.iadd, 1) := by decide +kernel
theorem dL_law_545 : decode cL_law 545 = .ok (.iaload, 1) := by decide +kernel
theorem dL_law_546 : decode cL_law 546 = .ok (.aload_n 0, 1) := by decide +kernel
theorem dL_law_547 : decode cL_law 547 = .ok (.iload_n 3, 1) := by decide +kernel
theorem dL_law_548 : decode cL_law 548 = .ok (.iconst 3, 1) := by decide +kernel
theorem dL_law_549 : decode cL_law 549 = .ok (.iadd, 1) := by decide +kernel
theorem dL_law_550 : decode cL_law 550 = .ok (.iaload, 1) := by decide +kernel
theorem dL_law_551 : decode cL_law 551 = .ok (.invokevirtual 64, 3) := by decide +kernel
theorem dL_law_554 : decode cL_law 554 = .ok (.lcmp, 1) := by decide +kernel
theorem dL_law_555 : decode cL_law 555 = .ok (.ifCond .eq 663, 3) := by decide +kernel
theorem dL_law_560 : decode cL_law 560 = .ok (.aload_n 1, 1) := by decide +kernel
theorem dL_law_561 : decode cL_law 561 = .ok (.aload_n 0, 1) := by decide +kernel
theorem dL_law_562 : decode cL_law 562 = .ok (.iload_n 3, 1) := by decide +kernel
theorem dL_law_563 : decode cL_law 563 = .ok (.iconst 1, 1) := by decide +kernel
theorem dL_law_564 : decode cL_law 564 = .ok (.iadd, 1) := by decide +kernel
theorem dL_law_565 : decode cL_law 565 = .ok (.iaload, 1) := by decide +kernel
theorem dL_law_566 : decode cL_law 566 = .ok (.aload_n 0, 1) := by decide +kernel
theorem dL_law_567 : decode cL_law 567 = .ok (.iload_n 3, 1) := by decide +kernel
theorem dL_law_568 : decode cL_law 568 = .ok (.iconst 2, 1) := by decide +kernel
theorem dL_law_569 : decode cL_law 569 = .ok (.iadd, 1) := by decide +kernel
theorem dL_law_570 : decode cL_law 570 = .ok (.iaload, 1) := by decide +kernel
theorem dL_law_571 : decode cL_law 571 = .ok (.aload_n 0, 1) := by decide +kernel
theorem dL_law_572 : decode cL_law 572 = .ok (.iload_n 3, 1) := by decide +kernel
theorem dL_law_573 : decode cL_law 573 = .ok (.iconst 3, 1) := by decide +kernel
theorem dL_law_574 : decode cL_law 574 = .ok (.iadd, 1) := by decide +kernel
theorem dL_law_575 : decode cL_law 575 = .ok (.iaload, 1) := by decide +kernel
theorem dL_law_576 : decode cL_law 576 = .ok (.aload_n 0, 1) := by decide +kernel
theorem dL_law_577 : decode cL_law 577 = .ok (.iload_n 3, 1) := by decide +kernel
theorem dL_law_578 : decode cL_law 578 = .ok (.iconst 4, 1) := by decide +kernel
theorem dL_law_579 : decode cL_law 579 = .ok (.iadd, 1) := by decide +kernel
theorem dL_law_580 : decode cL_law 580 = .ok (.iaload, 1) := by decide +kernel
theorem dL_law_581 : decode cL_law 581 = .ok (.invokevirtual 65, 3) := by decide +kernel
theorem dL_law_584 : decode cL_law 584 = .ok (.aload_n 2, 1) := by decide +kernel
theorem dL_law_585 : decode cL_law 585 = .ok (.aload_n 0, 1) := by decide +kernel
theorem dL_law_586 : decode cL_law 586 = .ok (.iload_n 3, 1) := by decide +kernel
theorem dL_law_587 : decode cL_law 587 = .ok (.iconst 1, 1) := by decide +kernel
theorem dL_law_588 : decode cL_law 588 = .ok (.iadd, 1) := by decide +kernel
theorem dL_law_589 : decode cL_law 589 = .ok (.iaload, 1) := by decide +kernel
theorem dL_law_590 : decode cL_law 590 = .ok (.aload_n 0, 1) := by decide +kernel
theorem dL_law_591 : decode cL_law 591 = .ok (.iload_n 3, 1) := by decide +kernel
theorem dL_law_592 : decode cL_law 592 = .ok (.iconst 2, 1) := by decide +kernel
theorem dL_law_593 : decode cL_law 593 = .ok (.iadd, 1) := by decide +kernel
theorem dL_law_594 : decode cL_law 594 = .ok (.iaload, 1) := by decide +kernel
theorem dL_law_595 : decode cL_law 595 = .ok (.aload_n 0, 1) := by decide +kernel
theorem dL_law_596 : decode cL_law 596 = .ok (.iload_n 3, 1) := by decide +kernel
theorem dL_law_597 : decode cL_law 597 = .ok (.iconst 3, 1) := by decide +kernel
theorem dL_law_598 : decode cL_law 598 = .ok (.iadd, 1) := by decide +kernel
theorem dL_law_599 : decode cL_law 599 = .ok (.iaload, 1) := by decide +kernel
theorem dL_law_600 : decode cL_law 600 = .ok (.aload_n 0, 1) := by decide +kernel
theorem dL_law_601 : decode cL_law 601 = .ok (.iload_n 3, 1) := by decide +kernel
theorem dL_law_602 : decode cL_law 602 = .ok (.iconst 4, 1) := by decide +kernel
theorem dL_law_603 : decode cL_law 603 = .ok (.iadd, 1) := by decide +kernel
theorem dL_law_604 : decode cL_law 604 = .ok (.iaload, 1) := by decide +kernel
theorem dL_law_605 : decode cL_law 605 = .ok (.invokevirtual 68, 3) := by decide +kernel
theorem dL_law_608 : decode cL_law 608 = .ok (.if_icmp .eq 610, 3) := by decide +kernel
theorem dL_law_613 : decode cL_law 613 = .ok (.aload_n 1, 1) := by decide +kernel
theorem dL_law_614 : decode cL_law 614 = .ok (.aload_n 0, 1) := by decide +kernel
theorem dL_law_615 : decode cL_law 615 = .ok (.iload_n 3, 1) := by decide +kernel
theorem dL_law_616 : decode cL_law 616 = .ok (.iconst 1, 1) := by decide +kernel
theorem dL_law_617 : decode cL_law 617 = .ok (.iadd, 1) := by decide +kernel
theorem dL_law_618 : decode cL_law 618 = .ok (.iaload, 1) := by decide +kernel
theorem dL_law_619 : decode cL_law 619 = .ok (.aload_n 0, 1) := by decide +kernel
theorem dL_law_620 : decode cL_law 620 = .ok (.iload_n 3, 1) := by decide +kernel
theorem dL_law_621 : decode cL_law 621 = .ok (.iconst 2, 1) := by decide +kernel
theorem dL_law_622 : decode cL_law 622 = .ok (.iadd, 1) := by decide +kernel
theorem dL_law_623 : decode cL_law 623 = .ok (.iaload, 1) := by decide +kernel
theorem dL_law_624 : decode cL_law 624 = .ok (.aload_n 0, 1) := by decide +kernel
theorem dL_law_625 : decode cL_law 625 = .ok (.iload_n 3, 1) := by decide +kernel
theorem dL_law_626 : decode cL_law 626 = .ok (.iconst 3, 1) := by decide +kernel
theorem dL_law_627 : decode cL_law 627 = .ok (.iadd, 1) := by decide +kernel
theorem dL_law_628 : decode cL_law 628 = .ok (.iaload, 1) := by decide +kernel
theorem dL_law_629 : decode cL_law 629 = .ok (.aload_n 0, 1) := by decide +kernel
theorem dL_law_630 : decode cL_law 630 = .ok (.iload_n 3, 1) := by decide +kernel
theorem dL_law_631 : decode cL_law 631 = .ok (.iconst 4, 1) := by decide +kernel
theorem dL_law_632 : decode cL_law 632 = .ok (.iadd, 1) := by decide +kernel
theorem dL_law_633 : decode cL_law 633 = .ok (.iaload, 1) := by decide +kernel
theorem dL_law_634 : decode cL_law 634 = .ok (.invokevirtual 69, 3) := by decide +kernel
theorem dL_law_637 : decode cL_law 637 = .ok (.aload_n 2, 1) := by decide +kernel
theorem dL_law_638 : decode cL_law 638 = .ok (.aload_n 0, 1) := by decide +kernel
theorem dL_law_639 : decode cL_law 639 = .ok (.iload_n 3, 1) := by decide +kernel
theorem dL_law_640 : decode cL_law 640 = .ok (.iconst 1, 1) := by decide +kernel
theorem dL_law_641 : decode cL_law 641 = .ok (.iadd, 1) := by decide +kernel
theorem dL_law_642 : decode cL_law 642 = .ok (.iaload, 1) := by decide +kernel
theorem dL_law_643 : decode cL_law 643 = .ok (.aload_n 0, 1) := by decide +kernel
theorem dL_law_644 : decode cL_law 644 = .ok (.iload_n 3, 1) := by decide +kernel
theorem dL_law_645 : decode cL_law 645 = .ok (.iconst 2, 1) := by decide +kernel
theorem dL_law_646 : decode cL_law 646 = .ok (.iadd, 1) := by decide +kernel
theorem dL_law_647 : decode cL_law 647 = .ok (.iaload, 1) := by decide +kernel
theorem dL_law_648 : decode cL_law 648 = .ok (.aload_n 0, 1) := by decide +kernel
theorem dL_law_649 : decode cL_law 649 = .ok (.iload_n 3, 1) := by decide +kernel
theorem dL_law_650 : decode cL_law 650 = .ok (.iconst 3, 1) := by decide +kernel
theorem dL_law_651 : decode cL_law 651 = .ok (.iadd, 1) := by decide +kernel
theorem dL_law_652 : decode cL_law 652 = .ok (.iaload, 1) := by decide +kernel
theorem dL_law_653 : decode cL_law 653 = .ok (.aload_n 0, 1) := by decide +kernel
theorem dL_law_654 : decode cL_law 654 = .ok (.iload_n 3, 1) := by decide +kernel
theorem dL_law_655 : decode cL_law 655 = .ok (.iconst 4, 1) := by decide +kernel
theorem dL_law_656 : decode cL_law 656 = .ok (.iadd, 1) := by decide +kernel
theorem dL_law_657 : decode cL_law 657 = .ok (.iaload, 1) := by decide +kernel
theorem dL_law_658 : decode cL_law 658 = .ok (.invokevirtual 72, 3) := by decide +kernel
theorem dL_law_661 : decode cL_law 661 = .ok (.if_icmp .eq 557, 3) := by decide +kernel
theorem dL_law_666 : decode cL_law 666 = .ok (.aload_n 1, 1) := by decide +kernel
theorem dL_law_667 : decode cL_law 667 = .ok (.aload_n 0, 1) := by decide +kernel
theorem dL_law_668 : decode cL_law 668 = .ok (.iload_n 3, 1) := by decide +kernel
theorem dL_law_669 : decode cL_law 669 = .ok (.iconst 1, 1) := by decide +kernel
theorem dL_law_670 : decode cL_law 670 = .ok (.iadd, 1) := by decide +kernel
theorem dL_law_671 : decode cL_law 671 = .ok (.iaload, 1) := by decide +kernel
theorem dL_law_672 : decode cL_law 672 = .ok (.aload_n 0, 1) := by decide +kernel
theorem dL_law_673 : decode cL_law 673 = .ok (.iload_n 3, 1) := by decide +kernel
theorem dL_law_674 : decode cL_law 674 = .ok (.iconst 2, 1) := by decide +kernel
theorem dL_law_675 : decode cL_law 675 = .ok (.iadd, 1) := by decide +kernel
theorem dL_law_676 : decode cL_law 676 = .ok (.iaload, 1) := by decide +kernel
theorem dL_law_677 : decode cL_law 677 = .ok (.aload_n 0, 1) := by decide +kernel
theorem dL_law_678 : decode cL_law 678 = .ok (.iload_n 3, 1) := by decide +kernel
theorem dL_law_679 : decode cL_law 679 = .ok (.iconst 3, 1) := by decide +kernel
theorem dL_law_680 : decode cL_law 680 = .ok (.iadd, 1) := by decide +kernel
theorem dL_law_681 : decode cL_law 681 = .ok (.iaload, 1) := by decide +kernel
theorem dL_law_682 : decode cL_law 682 = .ok (.invokevirtual 73, 3) := by decide +kernel
theorem dL_law_685 : decode cL_law 685 = .ok (.aload_n 2, 1) := by decide +kernel
theorem dL_law_686 : decode cL_law 686 = .ok (.aload_n 0, 1) := by decide +kernel
theorem dL_law_687 : decode cL_law 687 = .ok (.iload_n 3, 1) := by decide +kernel
theorem dL_law_688 : decode cL_law 688 = .ok (.iconst 1, 1) := by decide +kernel
theorem dL_law_689 : decode cL_law 689 = .ok (.iadd, 1) := by decide +kernel
theorem dL_law_690 : decode cL_law 690 = .ok (.iaload, 1) := by decide +kernel
theorem dL_law_691 : decode cL_law 691 = .ok (.aload_n 0, 1) := by decide +kernel
theorem dL_law_692 : decode cL_law 692 = .ok (.iload_n 3, 1) := by decide +kernel
theorem dL_law_693 : decode cL_law 693 = .ok (.iconst 2, 1) := by decide +kernel
theorem dL_law_694 : decode cL_law 694 = .ok (.iadd, 1) := by decide +kernel
theorem dL_law_695 : decode cL_law 695 = .ok (.iaload, 1) := by decide +kernel
theorem dL_law_696 : decode cL_law 696 = .ok (.aload_n 0, 1) := by decide +kernel
theorem dL_law_697 : decode cL_law 697 = .ok (.iload_n 3, 1) := by decide +kernel
theorem dL_law_698 : decode cL_law 698 = .ok (.iconst 3, 1) := by decide +kernel
theorem dL_law_699 : decode cL_law 699 = .ok (.iadd, 1) := by decide +kernel
theorem dL_law_700 : decode cL_law 700 = .ok (.iaload, 1) := by decide +kernel
theorem dL_law_701 : decode cL_law 701 = .ok (.invokevirtual 76, 3) := by decide +kernel
theorem dL_law_704 : decode cL_law 704 = .ok (.if_icmp .eq 514, 3) := by decide +kernel
theorem dL_law_709 : decode cL_law 709 = .ok (.aload_n 1, 1) := by decide +kernel
theorem dL_law_710 : decode cL_law 710 = .ok (.aload_n 0, 1) := by decide +kernel
theorem dL_law_711 : decode cL_law 711 = .ok (.iload_n 3, 1) := by decide +kernel
theorem dL_law_712 : decode cL_law 712 = .ok (.iconst 1, 1) := by decide +kernel
theorem dL_law_713 : decode cL_law 713 = .ok (.iadd, 1) := by decide +kernel
theorem dL_law_714 : decode cL_law 714 = .ok (.iaload, 1) := by decide +kernel
theorem dL_law_715 : decode cL_law 715 = .ok (.aload_n 0, 1) := by decide +kernel
theorem dL_law_716 : decode cL_law 716 = .ok (.iload_n 3, 1) := by decide +kernel
theorem dL_law_717 : decode cL_law 717 = .ok (.iconst 2, 1) := by decide +kernel
theorem dL_law_718 : decode cL_law 718 = .ok (.iadd, 1) := by decide +kernel
theorem dL_law_719 : decode cL_law 719 = .ok (.iaload, 1) := by decide +kernel
theorem dL_law_720 : decode cL_law 720 = .ok (.aload_n 0, 1) := by decide +kernel
theorem dL_law_721 : decode cL_law 721 = .ok (.iload_n 3, 1) := by decide +kernel
theorem dL_law_722 : decode cL_law 722 = .ok (.iconst 3, 1) := by decide +kernel
theorem dL_law_723 : decode cL_law 723 = .ok (.iadd, 1) := by decide +kernel
theorem dL_law_724 : decode cL_law 724 = .ok (.iaload, 1) := by decide +kernel
theorem dL_law_725 : decode cL_law 725 = .ok (.aload_n 0, 1) := by decide +kernel
theorem dL_law_726 : decode cL_law 726 = .ok (.iload_n 3, 1) := by decide +kernel
theorem dL_law_727 : decode cL_law 727 = .ok (.iconst 4, 1) := by decide +kernel
theorem dL_law_728 : decode cL_law 728 = .ok (.iadd, 1) := by decide +kernel
theorem dL_law_729 : decode cL_law 729 = .ok (.iaload, 1) := by decide +kernel
theorem dL_law_730 : decode cL_law 730 = .ok (.invokevirtual 77, 3) := by decide +kernel
theorem dL_law_733 : decode cL_law 733 = .ok (.aload_n 2, 1) := by decide +kernel
theorem dL_law_734 : decode cL_law 734 = .ok (.aload_n 0, 1) := by decide +kernel
theorem dL_law_735 : decode cL_law 735 = .ok (.iload_n 3, 1) := by decide +kernel
theorem dL_law_736 : decode cL_law 736 = .ok (.iconst 1, 1) := by decide +kernel
theorem dL_law_737 : decode cL_law 737 = .ok (.iadd, 1) := by decide +kernel
theorem dL_law_738 : decode cL_law 738 = .ok (.iaload, 1) := by decide +kernel
theorem dL_law_739 : decode cL_law 739 = .ok (.aload_n 0, 1) := by decide +kernel
theorem dL_law_740 : decode cL_law 740 = .ok (.iload_n 3, 1) := by decide +kernel
theorem dL_law_741 : decode cL_law 741 = .ok (.iconst 2, 1) := by decide +kernel
theorem dL_law_742 : decode cL_law 742 = .ok (.iadd, 1) := by decide +kernel
theorem dL_law_743 : decode cL_law 743 = .ok (.iaload, 1) := by decide +kernel
theorem dL_law_744 : decode cL_law 744 = .ok (.aload_n 0, 1) := by decide +kernel
theorem dL_law_745 : decode cL_law 745 = .ok (.iload_n 3, 1) := by decide +kernel
theorem dL_law_746 : decode cL_law 746 = .ok (.iconst 3, 1) := by decide +kernel
theorem dL_law_747 : decode cL_law 747 = .ok (.iadd, 1) := by decide +kernel
theorem dL_law_748 : decode cL_law 748 = .ok (.iaload, 1) := by decide +kernel
theorem dL_law_749 : decode cL_law 749 = .ok (.aload_n 0, 1) := by decide +kernel
theorem dL_law_750 : decode cL_law 750 = .ok (.iload_n 3, 1) := by decide +kernel
theorem dL_law_751 : decode cL_law 751 = .ok (.iconst 4, 1) := by decide +kernel
theorem dL_law_752 : decode cL_law 752 = .ok (.iadd, 1) := by decide +kernel
theorem dL_law_753 : decode cL_law 753 = .ok (.iaload, 1) := by decide +kernel
theorem dL_law_754 : decode cL_law 754 = .ok (.invokevirtual 80, 3) := by decide +kernel
theorem dL_law_757 : decode cL_law 757 = .ok (.if_icmp .eq 461, 3) := by decide +kernel
theorem dL_law_762 : decode cL_law 762 = .ok (.aload_n 1, 1) := by decide +kernel
theorem dL_law_763 : decode cL_law 763 = .ok (.aload_n 0, 1) := by decide +kernel
theorem dL_law_764 : decode cL_law 764 = .ok (.iload_n 3, 1) := by decide +kernel
theorem dL_law_765 : decode cL_law 765 = .ok (.iconst 1, 1) := by decide +kernel
theorem dL_law_766 : decode cL_law 766 = .ok (.iadd, 1) := by decide +kernel
theorem dL_law_767 : decode cL_law 767 = .ok (.iaload, 1) := by decide +kernel
theorem dL_law_768 : decode cL_law 768 = .ok (.aload_n 0, 1) := by decide +kernel
theorem dL_law_769 : decode cL_law 769 = .ok (.iload_n 3, 1) := by decide +kernel
theorem dL_law_770 : decode cL_law 770 = .ok (.iconst 2, 1) := by decide +kernel
theorem dL_law_771 : decode cL_law 771 = .ok (.iadd, 1) := by decide +kernel
theorem dL_law_772 : decode cL_law 772 = .ok (.iaload, 1) := by decide +kernel
theorem dL_law_773 : decode cL_law 773 = .ok (.invokevirtual 81, 3) := by decide +kernel
theorem dL_law_776 : decode cL_law 776 = .ok (.aload_n 2, 1) := by decide +kernel
theorem dL_law_777 : decode cL_law 777 = .ok (.aload_n 0, 1) := by decide +kernel
theorem dL_law_778 : decode cL_law 778 = .ok (.iload_n 3, 1) := by decide +kernel
theorem dL_law_779 : decode cL_law 779 = .ok (.iconst 1, 1) := by decide +kernel
theorem dL_law_780 : decode cL_law 780 = .ok (.iadd, 1) := by decide +kernel
theorem dL_law_781 : decode cL_law 781 = .ok (.iaload, 1) := by decide +kernel
theorem dL_law_782 : decode cL_law 782 = .ok (.aload_n 0, 1) := by decide +kernel
theorem dL_law_783 : decode cL_law 783 = .ok (.iload_n 3, 1) := by decide +kernel
theorem dL_law_784 : decode cL_law 784 = .ok (.iconst 2, 1) := by decide +kernel
theorem dL_law_785 : decode cL_law 785 = .ok (.iadd, 1) := by decide +kernel
theorem dL_law_786 : decode cL_law 786 = .ok (.iaload, 1) := by decide +kernel
theorem dL_law_787 : decode cL_law 787 = .ok (.invokevirtual 84, 3) := by decide +kernel
theorem dL_law_790 : decode cL_law 790 = .ok (.if_icmp .eq 428, 3) := by decide +kernel
theorem dL_law_795 : decode cL_law 795 = .ok (.aload_n 1, 1) := by decide +kernel
theorem dL_law_796 : decode cL_law 796 = .ok (.aload_n 0, 1) := by decide +kernel
theorem dL_law_797 : decode cL_law 797 = .ok (.iload_n 3, 1) := by decide +kernel
theorem dL_law_798 : decode cL_law 798 = .ok (.iconst 1, 1) := by decide +kernel
theorem dL_law_799 : decode cL_law 799 = .ok (.iadd, 1) := by decide +kernel
theorem dL_law_800 : decode cL_law 800 = .ok (.iaload, 1) := by decide +kernel
theorem dL_law_801 : decode cL_law 801 = .ok (.aload_n 0, 1) := by decide +kernel
theorem dL_law_802 : decode cL_law 802 = .ok (.iload_n 3, 1) := by decide +kernel
theorem dL_law_803 : decode cL_law 803 = .ok (.iconst 2, 1) := by decide +kernel
theorem dL_law_804 : decode cL_law 804 = .ok (.iadd, 1) := by decide +kernel
theorem dL_law_805 : decode cL_law 805 = .ok (.iaload, 1) := by decide +kernel
theorem dL_law_806 : decode cL_law 806 = .ok (.aload_n 0, 1) := by decide +kernel
theorem dL_law_807 : decode cL_law 807 = .ok (.iload_n 3, 1) := by decide +kernel
theorem dL_law_808 : decode cL_law 808 = .ok (.iconst 3, 1) := by decide +kernel
theorem dL_law_809 : decode cL_law 809 = .ok (.iadd, 1) := by decide +kernel
theorem dL_law_810 : decode cL_law 810 = .ok (.iaload, 1) := by decide +kernel
theorem dL_law_811 : decode cL_law 811 = .ok (.aload_n 0, 1) := by decide +kernel
theorem dL_law_812 : decode cL_law 812 = .ok (.iload_n 3, 1) := by decide +kernel
theorem dL_law_813 : decode cL_law 813 = .ok (.iconst 4, 1) := by decide +kernel
theorem dL_law_814 : decode cL_law 814 = .ok (.iadd, 1) := by decide +kernel
theorem dL_law_815 : decode cL_law 815 = .ok (.iaload, 1) := by decide +kernel
theorem dL_law_816 : decode cL_law 816 = .ok (.invokevirtual 85, 3) := by decide +kernel
theorem dL_law_819 : decode cL_law 819 = .ok (.aload_n 2, 1) := by decide +kernel
theorem dL_law_820 : decode cL_law 820 = .ok (.aload_n 0, 1) := by decide +kernel
theorem dL_law_821 : decode cL_law 821 = .ok (.iload_n 3, 1) := by decide +kernel
theorem dL_law_822 : decode cL_law 822 = .ok (.iconst 1, 1) := by decide +kernel
theorem dL_law_823 : decode cL_law 823 = .ok (.iadd, 1) := by decide +kernel
theorem dL_law_824 : decode cL_law 824 = .ok (.iaload, 1) := by decide +kernel
theorem dL_law_825 : decode cL_law 825 = .ok (.aload_n 0, 1) := by decide +kernel
theorem dL_law_826 : decode cL_law 826 = .ok (.iload_n 3, 1) := by decide +kernel
theorem dL_law_827 : decode cL_law 827 = .ok (.iconst 2, 1) := by decide +kernel
theorem dL_law_828 : decode cL_law 828 = .ok (.iadd, 1) := by decide +kernel
theorem dL_law_829 : decode cL_law 829 = .ok (.iaload, 1) := by decide +kernel
theorem dL_law_830 : decode cL_law 830 = .ok (.aload_n 0, 1) := by decide +kernel
theorem dL_law_831 : decode cL_law 831 = .ok (.iload_n 3, 1) := by decide +kernel
theorem dL_law_832 : decode cL_law 832 = .ok (.iconst 3, 1) := by decide +kernel
theorem dL_law_833 : decode cL_law 833 = .ok (.iadd, 1) := by decide +kernel
theorem dL_law_834 : decode cL_law 834 = .ok (.iaload, 1) := by decide +kernel
theorem dL_law_835 : decode cL_law 835 = .ok (.aload_n 0, 1) := by decide +kernel
theorem dL_law_836 : decode cL_law 836 = .ok (.iload_n 3, 1) := by decide +kernel
theorem dL_law_837 : decode cL_law 837 = .ok (.iconst 4, 1) := by decide +kernel
theorem dL_law_838 : decode cL_law 838 = .ok (.iadd, 1) := by decide +kernel
theorem dL_law_839 : decode cL_law 839 = .ok (.iaload, 1) := by decide +kernel
theorem dL_law_840 : decode cL_law 840 = .ok (.invokevirtual 88, 3) := by decide +kernel
theorem dL_law_843 : decode cL_law 843 = .ok (.if_icmp .eq 375, 3) := by decide +kernel
theorem dL_law_848 : decode cL_law 848 = .ok (.aload_n 1, 1) := by decide +kernel
theorem dL_law_849 : decode cL_law 849 = .ok (.aload_n 0, 1) := by decide +kernel
theorem dL_law_850 : decode cL_law 850 = .ok (.iload_n 3, 1) := by decide +kernel
theorem dL_law_851 : decode cL_law 851 = .ok (.iconst 1, 1) := by decide +kernel
theorem dL_law_852 : decode cL_law 852 = .ok (.iadd, 1) := by decide +kernel
theorem dL_law_853 : decode cL_law 853 = .ok (.iaload, 1) := by decide +kernel
theorem dL_law_854 : decode cL_law 854 = .ok (.aload_n 0, 1) := by decide +kernel
theorem dL_law_855 : decode cL_law 855 = .ok (.iload_n 3, 1) := by decide +kernel
theorem dL_law_856 : decode cL_law 856 = .ok (.iconst 2, 1) := by decide +kernel
theorem dL_law_857 : decode cL_law 857 = .ok (.iadd, 1) := by decide +kernel
theorem dL_law_858 : decode cL_law 858 = .ok (.iaload, 1) := by decide +kernel
theorem dL_law_859 : decode cL_law 859 = .ok (.aload_n 0, 1) := by decide +kernel
theorem dL_law_860 : decode cL_law 860 = .ok (.iload_n 3, 1) := by decide +kernel
theorem dL_law_861 : decode cL_law 861 = .ok (.iconst 3, 1) := by decide +kernel
theorem dL_law_862 : decode cL_law 862 = .ok (.iadd, 1) := by decide +kernel
theorem dL_law_863 : decode cL_law 863 = .ok (.iaload, 1) := by decide +kernel
theorem dL_law_864 : decode cL_law 864 = .ok (.aload_n 0, 1) := by decide +kernel
theorem dL_law_865 : decode cL_law 865 = .ok (.iload_n 3, 1) := by decide +kernel
theorem dL_law_866 : decode cL_law 866 = .ok (.iconst 4, 1) := by decide +kernel
theorem dL_law_867 : decode cL_law 867 = .ok (.iadd, 1) := by decide +kernel
theorem dL_law_868 : decode cL_law 868 = .ok (.iaload, 1) := by decide +kernel
theorem dL_law_869 : decode cL_law 869 = .ok (.invokevirtual 89, 3) := by decide +kernel
theorem dL_law_872 : decode cL_law 872 = .ok (.aload_n 2, 1) := by decide +kernel
theorem dL_law_873 : decode cL_law 873 = .ok (.aload_n 0, 1) := by decide +kernel
theorem dL_law_874 : decode cL_law 874 = .ok (.iload_n 3, 1) := by decide +kernel
theorem dL_law_875 : decode cL_law 875 = .ok (.iconst 1, 1) := by decide +kernel
theorem dL_law_876 : decode cL_law 876 = .ok (.iadd, 1) := by decide +kernel
theorem dL_law_877 : decode cL_law 877 = .ok (.iaload, 1) := by decide +kernel
theorem dL_law_878 : decode cL_law 878 = .ok (.aload_n 0, 1) := by decide +kernel
theorem dL_law_879 : decode cL_law 879 = .ok (.iload_n 3, 1) := by decide +kernel
theorem dL_law_880 : decode cL_law 880 = .ok (.iconst 2, 1) := by decide +kernel
theorem dL_law_881 : decode cL_law 881 = .ok (.iadd, 1) := by decide +kernel
theorem dL_law_882 : decode cL_law 882 = .ok (.iaload, 1) := by decide +kernel
theorem dL_law_883 : decode cL_law 883 = .ok (.aload_n 0, 1) := by decide +kernel
theorem dL_law_884 : decode cL_law 884 = .ok (.iload_n 3, 1) := by decide +kernel
theorem dL_law_885 : decode cL_law 885 = .ok (.iconst 3, 1) := by decide +kernel
theorem dL_law_886 : decode cL_law 886 = .ok (.iadd, 1) := by decide +kernel
theorem dL_law_887 : decode cL_law 887 = .ok (.iaload, 1) := by decide +kernel
theorem dL_law_888 : decode cL_law 888 = .ok (.aload_n 0, 1) := by decide +kernel
theorem dL_law_889 : decode cL_law 889 = .ok (.iload_n 3, 1) := by decide +kernel
theorem dL_law_890 : decode cL_law 890 = .ok (.iconst 4, 1) := by decide +kernel
theorem dL_law_891 : decode cL_law 891 = .ok (.iadd, 1) := by decide +kernel
theorem dL_law_892 : decode cL_law 892 = .ok (.iaload, 1) := by decide +kernel
theorem dL_law_893 : decode cL_law 893 = .ok (.invokevirtual 92, 3) := by decide +kernel
theorem dL_law_896 : decode cL_law 896 = .ok (.if_icmp .eq 322, 3) := by decide +kernel
theorem dL_law_901 : decode cL_law 901 = .ok (.aload_n 1, 1) := by decide +kernel
theorem dL_law_902 : decode cL_law 902 = .ok (.aload_n 0, 1) := by decide +kernel
theorem dL_law_903 : decode cL_law 903 = .ok (.iload_n 3, 1) := by decide +kernel
theorem dL_law_904 : decode cL_law 904 = .ok (.iconst 1, 1) := by decide +kernel
theorem dL_law_905 : decode cL_law 905 = .ok (.iadd, 1) := by decide +kernel
theorem dL_law_906 : decode cL_law 906 = .ok (.iaload, 1) := by decide +kernel
theorem dL_law_907 : decode cL_law 907 = .ok (.aload_n 0, 1) := by decide +kernel
theorem dL_law_908 : decode cL_law 908 = .ok (.iload_n 3, 1) := by decide +kernel
theorem dL_law_909 : decode cL_law 909 = .ok (.iconst 2, 1) := by decide +kernel
theorem dL_law_910 : decode cL_law 910 = .ok (.iadd, 1) := by decide +kernel
theorem dL_law_911 : decode cL_law 911 = .ok (.iaload, 1) := by decide +kernel
theorem dL_law_912 : decode cL_law 912 = .ok (.aload_n 0, 1) := by decide +kernel
theorem dL_law_913 : decode cL_law 913 = .ok (.iload_n 3, 1) := by decide +kernel
theorem dL_law_914 : decode cL_law 914 = .ok (.iconst 3, 1) := by decide +kernel
theorem dL_law_915 : decode cL_law 915 = .ok (.iadd, 1) := by decide +kernel
theorem dL_law_916 : decode cL_law 916 = .ok (.iaload, 1) := by decide +kernel
theorem dL_law_917 : decode cL_law 917 = .ok (.invokevirtual 93, 3) := by decide +kernel
theorem dL_law_920 : decode cL_law 920 = .ok (.aload_n 2, 1) := by decide +kernel
theorem dL_law_921 : decode cL_law 921 = .ok (.aload_n 0, 1) := by decide +kernel
theorem dL_law_922 : decode cL_law 922 = .ok (.iload_n 3, 1) := by decide +kernel
theorem dL_law_923 : decode cL_law 923 = .ok (.iconst 1, 1) := by decide +kernel
theorem dL_law_924 : decode cL_law 924 = .ok (.iadd, 1) := by decide +kernel
theorem dL_law_925 : decode cL_law 925 = .ok (.iaload, 1) := by decide +kernel
theorem dL_law_926 : decode cL_law 926 = .ok (.aload_n 0, 1) := by decide +kernel
theorem dL_law_927 : decode cL_law 927 = .ok (.iload_n 3, 1) := by decide +kernel
theorem dL_law_928 : decode cL_law 928 = .ok (.iconst 2, 1) := by decide +kernel
theorem dL_law_929 : decode cL_law 929 = .ok (.iadd, 1) := by decide +kernel
theorem dL_law_930 : decode cL_law 930 = .ok (.iaload, 1) := by decide +kernel
theorem dL_law_931 : decode cL_law 931 = .ok (.aload_n 0, 1) := by decide +kernel
theorem dL_law_932 : decode cL_law 932 = .ok (.iload_n 3, 1) := by decide +kernel
theorem dL_law_933 : decode cL_law 933 = .ok (.iconst 3, 1) := by decide +kernel
theorem dL_law_934 : decode cL_law 934 = .ok (.iadd, 1) := by decide +kernel
theorem dL_law_935 : decode cL_law 935 = .ok (.iaload, 1) := by decide +kernel
theorem dL_law_936 : decode cL_law 936 = .ok (.invokevirtual 96, 3) := by decide +kernel
theorem dL_law_939 : decode cL_law 939 = .ok (.if_icmp .eq 279, 3) := by decide +kernel
theorem dL_law_944 : decode cL_law 944 = .ok (.aload_n 1, 1) := by decide +kernel
theorem dL_law_945 : decode cL_law 945 = .ok (.aload_n 0, 1) := by decide +kernel
theorem dL_law_946 : decode cL_law 946 = .ok (.iload_n 3, 1) := by decide +kernel
theorem dL_law_947 : decode cL_law 947 = .ok (.iconst 1, 1) := by decide +kernel
theorem dL_law_948 : decode cL_law 948 = .ok (.iadd, 1) := by decide +kernel
theorem dL_law_949 : decode cL_law 949 = .ok (.iaload, 1) := by decide +kernel
theorem dL_law_950 : decode cL_law 950 = .ok (.aload_n 0, 1) := by decide +kernel
theorem dL_law_951 : decode cL_law 951 = .ok (.iload_n 3, 1) := by decide +kernel
theorem dL_law_952 : decode cL_law 952 = .ok (.iconst 2, 1) := by decide +kernel
theorem dL_law_953 : decode cL_law 953 = .ok (.iadd, 1) := by decide +kernel
theorem dL_law_954 : decode cL_law 954 = .ok (.iaload, 1) := by decide +kernel
theorem dL_law_955 : decode cL_law 955 = .ok (.invokevirtual 97, 3) := by decide +kernel
theorem dL_law_958 : decode cL_law 958 = .ok (.aload_n 2, 1) := by decide +kernel
theorem dL_law_959 : decode cL_law 959 = .ok (.aload_n 0, 1) := by decide +kernel
theorem dL_law_960 : decode cL_law 960 = .ok (.iload_n 3, 1) := by decide +kernel
theorem dL_law_961 : decode cL_law 961 = .ok (.iconst 1, 1) := by decide +kernel
theorem dL_law_962 : decode cL_law 962 = .ok (.iadd, 1) := by decide +kernel
theorem dL_law_963 : decode cL_law 963 = .ok (.iaload, 1) := by decide +kernel
theorem dL_law_964 : decode cL_law 964 = .ok (.aload_n 0, 1) := by decide +kernel
theorem dL_law_965 : decode cL_law 965 = .ok (.iload_n 3, 1) := by decide +kernel
theorem dL_law_966 : decode cL_law 966 = .ok (.iconst 2, 1) := by decide +kernel
theorem dL_law_967 : decode cL_law 967 = .ok (.iadd, 1) := by decide +kernel
theorem dL_law_968 : decode cL_law 968 = .ok (.iaload, 1) := by decide +kernel
theorem dL_law_969 : decode cL_law 969 = .ok (.invokevirtual 100, 3) := by decide +kernel
theorem dL_law_972 : decode cL_law 972 = .ok (.if_icmp .eq 246, 3) := by decide +kernel
theorem dL_law_977 : decode cL_law 977 = .ok (.aload_n 1, 1) := by decide +kernel
theorem dL_law_978 : decode cL_law 978 = .ok (.aload_n 0, 1) := by decide +kernel
theorem dL_law_979 : decode cL_law 979 = .ok (.iload_n 3, 1) := by decide +kernel
theorem dL_law_980 : decode cL_law 980 = .ok (.iconst 1, 1) := by decide +kernel
theorem dL_law_981 : decode cL_law 981 = .ok (.iadd, 1) := by decide +kernel
theorem dL_law_982 : decode cL_law 982 = .ok (.iaload, 1) := by decide +kernel
theorem dL_law_983 : decode cL_law 983 = .ok (.aload_n 0, 1) := by decide +kernel
theorem dL_law_984 : decode cL_law 984 = .ok (.iload_n 3, 1) := by decide +kernel
theorem dL_law_985 : decode cL_law 985 = .ok (.iconst 2, 1) := by decide +kernel
theorem dL_law_986 : decode cL_law 986 = .ok (.iadd, 1) := by decide +kernel
theorem dL_law_987 : decode cL_law 987 = .ok (.iaload, 1) := by decide +kernel
theorem dL_law_988 : decode cL_law 988 = .ok (.aload_n 0, 1) := by decide +kernel
theorem dL_law_989 : decode cL_law 989 = .ok (.iload_n 3, 1) := by decide +kernel
theorem dL_law_990 : decode cL_law 990 = .ok (.iconst 3, 1) := by decide +kernel
theorem dL_law_991 : decode cL_law 991 = .ok (.iadd, 1) := by decide +kernel
theorem dL_law_992 : decode cL_law 992 = .ok (.iaload, 1) := by decide +kernel
theorem dL_law_993 : decode cL_law 993 = .ok (.aload_n 0, 1) := by decide +kernel
theorem dL_law_994 : decode cL_law 994 = .ok (.iload_n 3, 1) := by decide +kernel
theorem dL_law_995 : decode cL_law 995 = .ok (.iconst 4, 1) := by decide +kernel
theorem dL_law_996 : decode cL_law 996 = .ok (.iadd, 1) := by decide +kernel
theorem dL_law_997 : decode cL_law 997 = .ok (.iaload, 1) := by decide +kernel
theorem dL_law_998 : decode cL_law 998 = .ok (.invokevirtual 101, 3) := by decide +kernel
theorem dL_law_1001 : decode cL_law 1001 = .ok (.aload_n 2, 1) := by decide +kernel
theorem dL_law_1002 : decode cL_law 1002 = .ok (.aload_n 0, 1) := by decide +kernel
theorem dL_law_1003 : decode cL_law 1003 = .ok (.iload_n 3, 1) := by decide +kernel
theorem dL_law_1004 : decode cL_law 1004 = .ok (.iconst 1, 1) := by decide +kernel
theorem dL_law_1005 : decode cL_law 1005 = .ok (.iadd, 1) := by decide +kernel
theorem dL_law_1006 : decode cL_law 1006 = .ok (.iaload, 1) := by decide +kernel
theorem dL_law_1007 : decode cL_law 1007 = .ok (.aload_n 0, 1) := by decide +kernel
theorem dL_law_1008 : decode cL_law 1008 = .ok (.iload_n 3, 1) := by decide +kernel
theorem dL_law_1009 : decode cL_law 1009 = .ok (.iconst 2, 1) := by decide +kernel
theorem dL_law_1010 : decode cL_law 1010 = .ok (.iadd, 1) := by decide +kernel
theorem dL_law_1011 : decode cL_law 1011 = .ok (.iaload, 1) := by decide +kernel
theorem dL_law_1012 : decode cL_law 1012 = .ok (.aload_n 0, 1) := by decide +kernel
theorem dL_law_1013 : decode cL_law 1013 = .ok (.iload_n 3, 1) := by decide +kernel
theorem dL_law_1014 : decode cL_law 1014 = .ok (.iconst 3, 1) := by decide +kernel
theorem dL_law_1015 : decode cL_law 1015 = .ok (.iadd, 1) := by decide +kernel
theorem dL_law_1016 : decode cL_law 1016 = .ok (.iaload, 1) := by decide +kernel
theorem dL_law_1017 : decode cL_law 1017 = .ok (.aload_n 0, 1) := by decide +kernel
theorem dL_law_1018 : decode cL_law 1018 = .ok (.iload_n 3, 1) := by decide +kernel
theorem dL_law_1019 : decode cL_law 1019 = .ok (.iconst 4, 1) := by decide +kernel
theorem dL_law_1020 : decode cL_law 1020 = .ok (.iadd, 1) := by decide +kernel
theorem dL_law_1021 : decode cL_law 1021 = .ok (.iaload, 1) := by decide +kernel
theorem dL_law_1022 : decode cL_law 1022 = .ok (.invokevirtual 104, 3) := by decide +kernel
theorem dL_law_1025 : decode cL_law 1025 = .ok (.if_icmp .eq 193, 3) := by decide +kernel
theorem dL_law_1030 : decode cL_law 1030 = .ok (.aload_n 1, 1) := by decide +kernel
theorem dL_law_1031 : decode cL_law 1031 = .ok (.invokevirtual 105, 3) := by decide +kernel
theorem dL_law_1034 : decode cL_law 1034 = .ok (.aload_n 2, 1) := by decide +kernel
theorem dL_law_1035 : decode cL_law 1035 = .ok (.invokevirtual 109, 3) := by decide +kernel
theorem dL_law_1038 : decode cL_law 1038 = .ok (.if_icmp .eq 180, 3) := by decide +kernel
theorem dL_law_1043 : decode cL_law 1043 = .ok (.aload_n 1, 1) := by decide +kernel
theorem dL_law_1044 : decode cL_law 1044 = .ok (.aload_n 0, 1) := by decide +kernel
theorem dL_law_1045 : decode cL_law 1045 = .ok (.iload_n 3, 1) := by decide +kernel
theorem dL_law_1046 : decode cL_law 1046 = .ok (.iconst 1, 1) := by decide +kernel
theorem dL_law_1047 : decode cL_law 1047 = .ok (.iadd, 1) := by decide +kernel
theorem dL_law_1048 : decode cL_law 1048 = .ok (.iaload, 1) := by decide +kernel
theorem dL_law_1049 : decode cL_law 1049 = .ok (.aload_n 0, 1) := by decide +kernel
theorem dL_law_1050 : decode cL_law 1050 = .ok (.iload_n 3, 1) := by decide +kernel
theorem dL_law_1051 : decode cL_law 1051 = .ok (.iconst 2, 1) := by decide +kernel
theorem dL_law_1052 : decode cL_law 1052 = .ok (.iadd, 1) := by decide +kernel
theorem dL_law_1053 : decode cL_law 1053 = .ok (.iaload, 1) := by decide +kernel
theorem dL_law_1054 : decode cL_law 1054 = .ok (.invokevirtual 110, 3) := by decide +kernel
theorem dL_law_1057 : decode cL_law 1057 = .ok (.aload_n 2, 1) := by decide +kernel
theorem dL_law_1058 : decode cL_law 1058 = .ok (.aload_n 0, 1) := by decide +kernel
theorem dL_law_1059 : decode cL_law 1059 = .ok (.iload_n 3, 1) := by decide +kernel
theorem dL_law_1060 : decode cL_law 1060 = .ok (.iconst 1, 1) := by decide +kernel
theorem dL_law_1061 : decode cL_law 1061 = .ok (.iadd, 1) := by decide +kernel
theorem dL_law_1062 : decode cL_law 1062 = .ok (.iaload, 1) := by decide +kernel
theorem dL_law_1063 : decode cL_law 1063 = .ok (.aload_n 0, 1) := by decide +kernel
theorem dL_law_1064 : decode cL_law 1064 = .ok (.iload_n 3, 1) := by decide +kernel
theorem dL_law_1065 : decode cL_law 1065 = .ok (.iconst 2, 1) := by decide +kernel
theorem dL_law_1066 : decode cL_law 1066 = .ok (.iadd, 1) := by decide +kernel
theorem dL_law_1067 : decode cL_law 1067 = .ok (.iaload, 1) := by decide +kernel
theorem dL_law_1068 : decode cL_law 1068 = .ok (.invokevirtual 113, 3) := by decide +kernel
theorem dL_law_1071 : decode cL_law 1071 = .ok (.if_icmp .eq 147, 3) := by decide +kernel
theorem dL_law_1076 : decode cL_law 1076 = .ok (.aload_n 1, 1) := by decide +kernel
theorem dL_law_1077 : decode cL_law 1077 = .ok (.aload_n 0, 1) := by decide +kernel
theorem dL_law_1078 : decode cL_law 1078 = .ok (.iload_n 3, 1) := by decide +kernel
theorem dL_law_1079 : decode cL_law 1079 = .ok (.iconst 1, 1) := by decide +kernel
theorem dL_law_1080 : decode cL_law 1080 = .ok (.iadd, 1) := by decide +kernel
theorem dL_law_1081 : decode cL_law 1081 = .ok (.iaload, 1) := by decide +kernel
theorem dL_law_1082 : decode cL_law 1082 = .ok (.invokevirtual 114, 3) := by decide +kernel
theorem dL_law_1085 : decode cL_law 1085 = .ok (.aload_n 2, 1) := by decide +kernel
theorem dL_law_1086 : decode cL_law 1086 = .ok (.aload_n 0, 1) := by decide +kernel
theorem dL_law_1087 : decode cL_law 1087 = .ok (.iload_n 3, 1) := by decide +kernel
theorem dL_law_1088 : decode cL_law 1088 = .ok (.iconst 1, 1) := by decide +kernel
theorem dL_law_1089 : decode cL_law 1089 = .ok (.iadd, 1) := by decide +kernel
theorem dL_law_1090 : decode cL_law 1090 = .ok (.iaload, 1) := by decide +kernel
theorem dL_law_1091 : decode cL_law 1091 = .ok (.invokevirtual 117, 3) := by decide +kernel
theorem dL_law_1094 : decode cL_law 1094 = .ok (.if_icmp .eq 124, 3) := by decide +kernel
theorem dL_law_1099 : decode cL_law 1099 = .ok (.aload_n 1, 1) := by decide +kernel
theorem dL_law_1100 : decode cL_law 1100 = .ok (.aload_n 0, 1) := by decide +kernel
theorem dL_law_1101 : decode cL_law 1101 = .ok (.iload_n 3, 1) := by decide +kernel
theorem dL_law_1102 : decode cL_law 1102 = .ok (.iconst 1, 1) := by decide +kernel
theorem dL_law_1103 : decode cL_law 1103 = .ok (.iadd, 1) := by decide +kernel
theorem dL_law_1104 : decode cL_law 1104 = .ok (.iaload, 1) := by decide +kernel
theorem dL_law_1105 : decode cL_law 1105 = .ok (.aload_n 0, 1) := by decide +kernel
theorem dL_law_1106 : decode cL_law 1106 = .ok (.iload_n 3, 1) := by decide +kernel
theorem dL_law_1107 : decode cL_law 1107 = .ok (.iconst 2, 1) := by decide +kernel
theorem dL_law_1108 : decode cL_law 1108 = .ok (.iadd, 1) := by decide +kernel
theorem dL_law_1109 : decode cL_law 1109 = .ok (.iaload, 1) := by decide +kernel
theorem dL_law_1110 : decode cL_law 1110 = .ok (.aload_n 0, 1) := by decide +kernel
theorem dL_law_1111 : decode cL_law 1111 = .ok (.iload_n 3, 1) := by decide +kernel
theorem dL_law_1112 : decode cL_law 1112 = .ok (.iconst 3, 1) := by decide +kernel
theorem dL_law_1113 : decode cL_law 1113 = .ok (.iadd, 1) := by decide +kernel
theorem dL_law_1114 : decode cL_law 1114 = .ok (.iaload, 1) := by decide +kernel
theorem dL_law_1115 : decode cL_law 1115 = .ok (.invokevirtual 118, 3) := by decide +kernel
theorem dL_law_1118 : decode cL_law 1118 = .ok (.aload_n 2, 1) := by decide +kernel
theorem dL_law_1119 : decode cL_law 1119 = .ok (.aload_n 0, 1) := by decide +kernel
theorem dL_law_1120 : decode cL_law 1120 = .ok (.iload_n 3, 1) := by decide +kernel
theorem dL_law_1121 : decode cL_law 1121 = .ok (.iconst 1, 1) := by decide +kernel
theorem dL_law_1122 : decode cL_law 1122 = .ok (.iadd, 1) := by decide +kernel
theorem dL_law_1123 : decode cL_law 1123 = .ok (.iaload, 1) := by decide +kernel
theorem dL_law_1124 : decode cL_law 1124 = .ok (.aload_n 0, 1) := by decide +kernel
theorem dL_law_1125 : decode cL_law 1125 = .ok (.iload_n 3, 1) := by decide +kernel
theorem dL_law_1126 : decode cL_law 1126 = .ok (.iconst 2, 1) := by decide +kernel
theorem dL_law_1127 : decode cL_law 1127 = .ok (.iadd, 1) := by decide +kernel
theorem dL_law_1128 : decode cL_law 1128 = .ok (.iaload, 1) := by decide +kernel
theorem dL_law_1129 : decode cL_law 1129 = .ok (.aload_n 0, 1) := by decide +kernel
theorem dL_law_1130 : decode cL_law 1130 = .ok (.iload_n 3, 1) := by decide +kernel
theorem dL_law_1131 : decode cL_law 1131 = .ok (.iconst 3, 1) := by decide +kernel
theorem dL_law_1132 : decode cL_law 1132 = .ok (.iadd, 1) := by decide +kernel
theorem dL_law_1133 : decode cL_law 1133 = .ok (.iaload, 1) := by decide +kernel
theorem dL_law_1134 : decode cL_law 1134 = .ok (.invokevirtual 121, 3) := by decide +kernel
theorem dL_law_1137 : decode cL_law 1137 = .ok (.if_icmp .eq 81, 3) := by decide +kernel
theorem dL_law_1142 : decode cL_law 1142 = .ok (.aload_n 1, 1) := by decide +kernel
theorem dL_law_1143 : decode cL_law 1143 = .ok (.aload_n 0, 1) := by decide +kernel
theorem dL_law_1144 : decode cL_law 1144 = .ok (.iload_n 3, 1) := by decide +kernel
theorem dL_law_1145 : decode cL_law 1145 = .ok (.iconst 1, 1) := by decide +kernel
theorem dL_law_1146 : decode cL_law 1146 = .ok (.iadd, 1) := by decide +kernel
theorem dL_law_1147 : decode cL_law 1147 = .ok (.iaload, 1) := by decide +kernel
theorem dL_law_1148 : decode cL_law 1148 = .ok (.aload_n 0, 1) := by decide +kernel
theorem dL_law_1149 : decode cL_law 1149 = .ok (.iload_n 3, 1) := by decide +kernel
theorem dL_law_1150 : decode cL_law 1150 = .ok (.iconst 2, 1) := by decide +kernel
theorem dL_law_1151 : decode cL_law 1151 = .ok (.iadd, 1) := by decide +kernel
theorem dL_law_1152 : decode cL_law 1152 = .ok (.iaload, 1) := by decide +kernel
theorem dL_law_1153 : decode cL_law 1153 = .ok (.aload_n 0, 1) := by decide +kernel
theorem dL_law_1154 : decode cL_law 1154 = .ok (.iload_n 3, 1) := by decide +kernel
theorem dL_law_1155 : decode cL_law 1155 = .ok (.iconst 3, 1) := by decide +kernel
theorem dL_law_1156 : decode cL_law 1156 = .ok (.iadd, 1) := by decide +kernel
theorem dL_law_1157 : decode cL_law 1157 = .ok (.iaload, 1) := by decide +kernel
theorem dL_law_1158 : decode cL_law 1158 = .ok (.aload_n 0, 1) := by decide +kernel
theorem dL_law_1159 : decode cL_law 1159 = .ok (.iload_n 3, 1) := by decide +kernel
theorem dL_law_1160 : decode cL_law 1160 = .ok (.iconst 4, 1) := by decide +kernel
theorem dL_law_1161 : decode cL_law 1161 = .ok (.iadd, 1) := by decide +kernel
theorem dL_law_1162 : decode cL_law 1162 = .ok (.iaload, 1) := by decide +kernel
theorem dL_law_1163 : decode cL_law 1163 = .ok (.invokevirtual 122, 3) := by decide +kernel
theorem dL_law_1166 : decode cL_law 1166 = .ok (.aload_n 2, 1) := by decide +kernel
theorem dL_law_1167 : decode cL_law 1167 = .ok (.aload_n 0, 1) := by decide +kernel
theorem dL_law_1168 : decode cL_law 1168 = .ok (.iload_n 3, 1) := by decide +kernel
theorem dL_law_1169 : decode cL_law 1169 = .ok (.iconst 1, 1) := by decide +kernel
theorem dL_law_1170 : decode cL_law 1170 = .ok (.iadd, 1) := by decide +kernel
theorem dL_law_1171 : decode cL_law 1171 = .ok (.iaload, 1) := by decide +kernel
theorem dL_law_1172 : decode cL_law 1172 = .ok (.aload_n 0, 1) := by decide +kernel
theorem dL_law_1173 : decode cL_law 1173 = .ok (.iload_n 3, 1) := by decide +kernel
theorem dL_law_1174 : decode cL_law 1174 = .ok (.iconst 2, 1) := by decide +kernel
theorem dL_law_1175 : decode cL_law 1175 = .ok (.iadd, 1) := by decide +kernel
theorem dL_law_1176 : decode cL_law 1176 = .ok (.iaload, 1) := by decide +kernel
theorem dL_law_1177 : decode cL_law 1177 = .ok (.aload_n 0, 1) := by decide +kernel
theorem dL_law_1178 : decode cL_law 1178 = .ok (.iload_n 3, 1) := by decide +kernel
theorem dL_law_1179 : decode cL_law 1179 = .ok (.iconst 3, 1) := by decide +kernel
theorem dL_law_1180 : decode cL_law 1180 = .ok (.iadd, 1) := by decide +kernel
theorem dL_law_1181 : decode cL_law 1181 = .ok (.iaload, 1) := by decide +kernel
theorem dL_law_1182 : decode cL_law 1182 = .ok (.aload_n 0, 1) := by decide +kernel
theorem dL_law_1183 : decode cL_law 1183 = .ok (.iload_n 3, 1) := by decide +kernel
theorem dL_law_1184 : decode cL_law 1184 = .ok (.iconst 4, 1) := by decide +kernel
theorem dL_law_1185 : decode cL_law 1185 = .ok (.iadd, 1) := by decide +kernel
theorem dL_law_1186 : decode cL_law 1186 = .ok (.iaload, 1) := by decide +kernel
theorem dL_law_1187 : decode cL_law 1187 = .ok (.invokevirtual 125, 3) := by decide +kernel
theorem dL_law_1190 : decode cL_law 1190 = .ok (.if_icmp .eq 28, 3) := by decide +kernel
theorem dL_law_1195 : decode cL_law 1195 = .ok (.aload_n 1, 1) := by decide +kernel
theorem dL_law_1196 : decode cL_law 1196 = .ok (.aload_n 0, 1) := by decide +kernel
theorem dL_law_1197 : decode cL_law 1197 = .ok (.iload_n 3, 1) := by decide +kernel
theorem dL_law_1198 : decode cL_law 1198 = .ok (.iconst 1, 1) := by decide +kernel
theorem dL_law_1199 : decode cL_law 1199 = .ok (.iadd, 1) := by decide +kernel
theorem dL_law_1200 : decode cL_law 1200 = .ok (.iaload, 1) := by decide +kernel
theorem dL_law_1201 : decode cL_law 1201 = .ok (.invokevirtual 126, 3) := by decide +kernel
theorem dL_law_1204 : decode cL_law 1204 = .ok (.aload_n 2, 1) := by decide +kernel
theorem dL_law_1205 : decode cL_law 1205 = .ok (.aload_n 0, 1) := by decide +kernel
theorem dL_law_1206 : decode cL_law 1206 = .ok (.iload_n 3, 1) := by decide +kernel
theorem dL_law_1207 : decode cL_law 1207 = .ok (.iconst 1, 1) := by decide +kernel
theorem dL_law_1208 : decode cL_law 1208 = .ok (.iadd, 1) := by decide +kernel
theorem dL_law_1209 : decode cL_law 1209 = .ok (.iaload, 1) := by decide +kernel
theorem dL_law_1210 : decode cL_law 1210 = .ok (.invokevirtual 129, 3) := by decide +kernel
theorem dL_law_1213 : decode cL_law 1213 = .ok (.if_icmp .eq 5, 3) := by decide +kernel
theorem dL_law_1218 : decode cL_law 1218 = .ok (.iinc 3 6, 3) := by decide +kernel
theorem dL_law_1221 : decode cL_law 1221 = .ok (.goto (-1203), 3) := by decide +kernel
theorem dL_law_1224 : decode cL_law 1224 = .ok (.iconst 1, 1) := by decide +kernel
theorem dL_law_1225 : decode cL_law 1225 = .ok (.ireturn, 1) := by decide +kernel
/-! THE CLAIM OUT OF ONE WALK OF THE LAW'S BODY. Your part is whole_start (and what it stands on); all else here is the same for every law, but numbers. -/
def R_law : String := "PutBackLaw"
def lw_P (b : Addr) (xs : List Int32) (args : Array Value) (s : State) : Prop := args = #[.ref b] ∧ s.IntsAt b xs ∧ xs.length ≤ 6 ∧ (Jvm.Cond.and given_1 narrow_1).before args s = true
def lw_Q (_ : Array Value) (s : State) (o : Outcome) (t : State) : Prop := o = .returned (some (.int 1)) ∧ Framed s o t [] 600000 7302250
def lw_Z (below : List Frame) (a : Array Value) (s : State) : State → Prop := fun t => ∃ o, t.status = .running ∧ Ended t below o ∧ lw_Q a s o t
/-- the law's own end, with 1 on the stack, nothing written that was there before, its room as the claim has it -/
theorem lw_ret {p : Program} {l : Launch} {e : Env} {s : State} {m : MethodId} {below : List Frame} {meth : Method} {c : Code} {b : Nat} (hx : p.tables.exec = Jvm.exec) (hb : c.code = code) (hr : meth.sig.returnType = ret) (hlocks : meth.locks = false) {pc : Nat} {H : Heap} {ls : Array Slot} (hdg : decode code pc = .ok (.ireturn, 1)) : W p l e room_1 s m #[Value.ref b] below meth c H [] 600000 7302250 (lw_Z below #[Value.ref b] s) (F0 m pc ls [.int 1]) := by
  intro T hT X
  obtain ⟨fs, hret, hrun, hended, hW, hframe⟩ := X.leave (v := some (.int 1)) (hlocks := hlocks) (fun h => by rw [hr] at h; cases h)
  have hmeth' : T.vm.method? m = some meth := X.method'
  refine ⟨T.setFrames fs, ?_, .returned (some (.int 1)), hrun, hended, rfl, ⟨_, rfl⟩, hW, hframe⟩
  jvm_step X.here [X.here.top, hx, hb, hdg, hmeth', hr, ret, narrow_b1]
  (try refine ⟨rfl, ?_⟩); (try refine ⟨rfl, ?_⟩)
  first | (intro acts; rw [hret _ acts rfl rfl rfl]) | rw [hret _ _ rfl rfl rfl]
  exact Steps.refl _
/-- what holds at the law's entry: the machine, the code, the tables' words (any of lw_tbl by 'hts w (by decide +kernel)'), the script of L ints xs at the cell b, what the Statement gives of the start (any of its parts by flat_of_before) -/
def lw_At (p : Program) (s : State) (m : MethodId) (meth : Method) (c : Code) (b L : Nat) (xs : Nat → Int32) : Prop :=
  p.tables.exec = Jvm.exec ∧ c.code = code ∧ meth.sig.returnType = ret ∧ c.maxLocals = 4 ∧ s.vm.findClass R_law = some m.cls ∧ (∀ w ∈ lw_tbl, w.before #[Value.ref b] s = true) ∧ va_X b L xs s s.heap ∧ b < s.heap.size ∧ meth.locks = false ∧ (Jvm.Cond.and given_1 narrow_1).before #[Value.ref b] s = true
