def wsL_kind_r1 : List Cond := [Cond.classLink RL 13 "java/lang/IllegalArgumentException", Cond.classLink RL 15 "java/lang/UnsupportedOperationException", Cond.methodLink RL 7 yX9_kind, Cond.instanceMethod yX9_kind, Cond.selects RX9 yX9_kind yX9_kind, Cond.initialized RX9, Cond.code yX9_kind cX9_kind 4 (some .int), Cond.fieldLink RX9 26 "AmphoraYard" "kinds" "LAmphoraYard$Kinds;", Cond.methodLink RX9 91 yX9_needNumber, Cond.static yX9_needNumber, Cond.code yX9_needNumber cX9_needNumber 3 none, Cond.classLink RX9 193 "java/lang/IllegalArgumentException", Cond.initialized "java/lang/IllegalArgumentException", Cond.methodLink RX9 98 yX9_needPlace, Cond.static yX9_needPlace, Cond.code yX9_needPlace cX9_needPlace 2 none, Cond.classLink RX9 278 "java/lang/UnsupportedOperationException", Cond.initialized "java/lang/UnsupportedOperationException", Cond.methodLink RX9 102 yX2_add, Cond.instanceMethod yX2_add, Cond.selects RX2 yX2_add yX2_add, Cond.initialized RX2, Cond.code yX2_add cX2_add 4 (some .int), Cond.fieldLink RX2 9 "AmphoraYard$Kinds" "empty" "[I"]
def wsL_kind_r2 : List Cond := [Cond.fieldLink RX2 19 "AmphoraYard$Kinds" "size" "I", Cond.fieldLink RX2 13 "AmphoraYard$Kinds" "room" "[I", Cond.fieldLink RX2 16 "AmphoraYard$Kinds" "bears" "[I"]
def wsL_kind : List Cond := .codeWith yL_kind cL_kind 6 (some .int) [(0, 12, 15, 13), (0, 12, 19, 15)] :: ((wsL_kind_r1 ++ wsL_kind_r2) ++ wsX90 ++ wsX20 ++ (vx_atS RX9 197 "java/lang/IllegalArgumentException" ["java/lang/RuntimeException", "java/lang/Exception"]).filter goodWord ++ (vx_atS RX9 282 "java/lang/UnsupportedOperationException" ["java/lang/RuntimeException", "java/lang/Exception"]).filter goodWord)
def wsL_fire_r1 : List Cond := [Cond.classLink RL 20 "java/lang/IndexOutOfBoundsException", Cond.classLink RL 13 "java/lang/IllegalArgumentException", Cond.classLink RL 15 "java/lang/UnsupportedOperationException", Cond.methodLink RL 17 yX9_fire, Cond.instanceMethod yX9_fire, Cond.selects RX9 yX9_fire yX9_fire, Cond.initialized RX9, Cond.code yX9_fire cX9_fire 4 (some .int), Cond.fieldLink RX9 26 "AmphoraYard" "kinds" "LAmphoraYard$Kinds;", Cond.fieldLink RX9 35 "AmphoraYard" "jars" "LAmphoraYard$Jars;", Cond.methodLink RX9 106 yX9_needIndex, Cond.static yX9_needIndex, Cond.code yX9_needIndex cX9_needIndex 2 none, Cond.classLink RX9 271 "java/lang/IndexOutOfBoundsException", Cond.initialized "java/lang/IndexOutOfBoundsException", Cond.methodLink RX9 91 yX9_needNumber, Cond.static yX9_needNumber, Cond.code yX9_needNumber cX9_needNumber 3 none, Cond.classLink RX9 193 "java/lang/IllegalArgumentException", Cond.initialized "java/lang/IllegalArgumentException", Cond.methodLink RX9 98 yX9_needPlace, Cond.static yX9_needPlace, Cond.code yX9_needPlace cX9_needPlace 2 none, Cond.classLink RX9 278 "java/lang/UnsupportedOperationException"]
def wsL_fire_r2 : List Cond := [Cond.initialized "java/lang/UnsupportedOperationException", Cond.methodLink RX9 110 yX1_add, Cond.instanceMethod yX1_add, Cond.selects RX1 yX1_add yX1_add, Cond.initialized RX1, Cond.code yX1_add cX1_add 4 (some .int), Cond.fieldLink RX1 15 "AmphoraYard$Jars" "kindOf" "[I", Cond.fieldLink RX1 34 "AmphoraYard$Jars" "size" "I", Cond.fieldLink RX1 19 "AmphoraYard$Jars" "maker" "[I", Cond.fieldLink RX1 22 "AmphoraYard$Jars" "year" "[I", Cond.fieldLink RX1 25 "AmphoraYard$Jars" "oil" "[I", Cond.fieldLink RX1 28 "AmphoraYard$Jars" "place" "[I", Cond.fieldLink RX1 31 "AmphoraYard$Jars" "pile" "[I"]
def wsL_fire : List Cond := .codeWith yL_fire cL_fire 6 (some .int) [(0, 12, 15, 20), (0, 12, 19, 13), (0, 12, 23, 15)] :: ((wsL_fire_r1 ++ wsL_fire_r2) ++ wsX90 ++ wsX20 ++ wsX10 ++ (vx_atS RX9 275 "java/lang/IndexOutOfBoundsException" ["java/lang/RuntimeException", "java/lang/Exception"]).filter goodWord ++ (vx_atS RX9 197 "java/lang/IllegalArgumentException" ["java/lang/RuntimeException", "java/lang/Exception"]).filter goodWord ++ (vx_atS RX9 282 "java/lang/UnsupportedOperationException" ["java/lang/RuntimeException", "java/lang/Exception"]).filter goodWord)
def wsL_fill_r1 : List Cond := [Cond.classLink RL 20 "java/lang/IndexOutOfBoundsException", Cond.classLink RL 13 "java/lang/IllegalArgumentException", Cond.methodLink RL 22 yX9_fill, Cond.instanceMethod yX9_fill, Cond.selects RX9 yX9_fill yX9_fill, Cond.initialized RX9, Cond.code yX9_fill cX9_fill 3 (some .int), Cond.fieldLink RX9 35 "AmphoraYard" "jars" "LAmphoraYard$Jars;", Cond.methodLink RX9 106 yX9_needIndex, Cond.static yX9_needIndex, Cond.code yX9_needIndex cX9_needIndex 2 none, Cond.classLink RX9 271 "java/lang/IndexOutOfBoundsException", Cond.initialized "java/lang/IndexOutOfBoundsException", Cond.methodLink RX9 91 yX9_needNumber, Cond.static yX9_needNumber, Cond.code yX9_needNumber cX9_needNumber 3 none, Cond.classLink RX9 193 "java/lang/IllegalArgumentException", Cond.initialized "java/lang/IllegalArgumentException", Cond.methodLink RX9 111 yX1_pour, Cond.instanceMethod yX1_pour, Cond.selects RX1 yX1_pour yX1_pour, Cond.initialized RX1, Cond.code yX1_pour cX1_pour 3 (some .int), Cond.fieldLink RX1 28 "AmphoraYard$Jars" "place" "[I"]
def wsL_fill_r2 : List Cond := [Cond.fieldLink RX1 25 "AmphoraYard$Jars" "oil" "[I", Cond.fieldLink RX1 9 "AmphoraYard$Jars" "kinds" "LAmphoraYard$Kinds;", Cond.fieldLink RX1 15 "AmphoraYard$Jars" "kindOf" "[I"]
def wsL_fill : List Cond := .codeWith yL_fill cL_fill 5 (some .int) [(0, 10, 13, 20), (0, 10, 17, 13)] :: ((wsL_fill_r1 ++ wsL_fill_r2) ++ wsX90 ++ wsX10 ++ wsX20 ++ (vx_atS RX9 275 "java/lang/IndexOutOfBoundsException" ["java/lang/RuntimeException", "java/lang/Exception"]).filter goodWord ++ (vx_atS RX9 197 "java/lang/IllegalArgumentException" ["java/lang/RuntimeException", "java/lang/Exception"]).filter goodWord)
def wsL_ship : List Cond := .codeWith yL_ship cL_ship 3 (some .int) [(0, 8, 11, 15)] :: ([.classLink RL 15 "java/lang/UnsupportedOperationException", .methodLink RL 26 yX9_ship, .instanceMethod yX9_ship, .selects RX9 yX9_ship yX9_ship, .initialized RX9, .code yX9_ship cX9_ship 1 (some .int), .fieldLink RX9 44 "AmphoraYard" "fleet" "LAmphoraYard$Fleet;", .methodLink RX9 98 yX9_needPlace, .static yX9_needPlace, .code yX9_needPlace cX9_needPlace 2 none, .classLink RX9 278 "java/lang/UnsupportedOperationException", .initialized "java/lang/UnsupportedOperationException", .methodLink RX9 116 yX0_add, .instanceMethod yX0_add, .selects RX0 yX0_add yX0_add, .initialized RX0, .code yX0_add cX0_add 1 (some .int), .fieldLink RX0 22 "AmphoraYard$Fleet" "size" "I"] ++ wsX90 ++ wsX00 ++ (vx_atS RX9 282 "java/lang/UnsupportedOperationException" ["java/lang/RuntimeException", "java/lang/Exception"]).filter goodWord)
def wsL_load_r1 : List Cond := [Cond.classLink RL 20 "java/lang/IndexOutOfBoundsException", Cond.methodLink RL 30 yX9_load, Cond.instanceMethod yX9_load, Cond.selects RX9 yX9_load yX9_load, Cond.initialized RX9, Cond.code yX9_load cX9_load 4 (some .boolean), Cond.fieldLink RX9 35 "AmphoraYard" "jars" "LAmphoraYard$Jars;", Cond.fieldLink RX9 44 "AmphoraYard" "fleet" "LAmphoraYard$Fleet;", Cond.methodLink RX9 106 yX9_needIndex, Cond.static yX9_needIndex, Cond.code yX9_needIndex cX9_needIndex 2 none, Cond.classLink RX9 271 "java/lang/IndexOutOfBoundsException", Cond.initialized "java/lang/IndexOutOfBoundsException", Cond.methodLink RX9 119 yX9_needHold, Cond.instanceMethod yX9_needHold, Cond.selects RX9 yX9_needHold yX9_needHold, Cond.code yX9_needHold cX9_needHold 3 none, Cond.methodLink RX9 122 yX0_pileOf, Cond.static yX0_pileOf, Cond.initialized RX0, Cond.code yX0_pileOf cX0_pileOf 2 (some .int), Cond.methodLink RX9 125 yX0_put, Cond.instanceMethod yX0_put, Cond.selects RX0 yX0_put yX0_put]
def wsL_load_r2 : List Cond := [Cond.code yX0_put cX0_put 3 (some .boolean), Cond.fieldLink RX0 9 "AmphoraYard$Fleet" "jars" "LAmphoraYard$Jars;", Cond.fieldLink RX0 19 "AmphoraYard$Fleet" "height" "[I", Cond.methodLink RX0 31 yX0_canBear, Cond.instanceMethod yX0_canBear, Cond.selects RX0 yX0_canBear yX0_canBear, Cond.code yX0_canBear cX0_canBear 6 (some .boolean), Cond.fieldLink RX0 15 "AmphoraYard$Fleet" "stacked" "[I", Cond.methodLink RX0 43 yX1_weight, Cond.instanceMethod yX1_weight, Cond.selects RX1 yX1_weight yX1_weight, Cond.initialized RX1, Cond.code yX1_weight cX1_weight 2 (some .int), Cond.fieldLink RX1 9 "AmphoraYard$Jars" "kinds" "LAmphoraYard$Kinds;", Cond.fieldLink RX1 15 "AmphoraYard$Jars" "kindOf" "[I", Cond.fieldLink RX1 25 "AmphoraYard$Jars" "oil" "[I", Cond.methodLink RX0 47 yX1_bears, Cond.instanceMethod yX1_bears, Cond.selects RX1 yX1_bears yX1_bears, Cond.code yX1_bears cX1_bears 2 (some .int), Cond.methodLink RX0 35 yX0_setTop, Cond.instanceMethod yX0_setTop, Cond.selects RX0 yX0_setTop yX0_setTop, Cond.code yX0_setTop cX0_setTop 3 none]
def wsL_load_r3 : List Cond := [Cond.methodLink RX0 39 yX1_move, Cond.instanceMethod yX1_move, Cond.selects RX1 yX1_move yX1_move, Cond.code yX1_move cX1_move 4 none, Cond.fieldLink RX1 28 "AmphoraYard$Jars" "place" "[I", Cond.fieldLink RX1 31 "AmphoraYard$Jars" "pile" "[I"]
def wsL_load : List Cond := .codeWith yL_load cL_load 6 (some .int) [(0, 19, 22, 20)] :: ((wsL_load_r1 ++ (wsL_load_r2 ++ wsL_load_r3)) ++ wsX90 ++ wsX10 ++ wsX00 ++ wsX20 ++ (vx_atS RX9 275 "java/lang/IndexOutOfBoundsException" ["java/lang/RuntimeException", "java/lang/Exception"]).filter goodWord)
def wsL_land_r1 : List Cond := [Cond.classLink RL 20 "java/lang/IndexOutOfBoundsException", Cond.methodLink RL 34 yX9_land, Cond.instanceMethod yX9_land, Cond.selects RX9 yX9_land yX9_land, Cond.initialized RX9, Cond.code yX9_land cX9_land 3 (some .int), Cond.fieldLink RX9 44 "AmphoraYard" "fleet" "LAmphoraYard$Fleet;", Cond.methodLink RX9 119 yX9_needHold, Cond.instanceMethod yX9_needHold, Cond.selects RX9 yX9_needHold yX9_needHold, Cond.code yX9_needHold cX9_needHold 3 none, Cond.methodLink RX9 106 yX9_needIndex, Cond.static yX9_needIndex, Cond.code yX9_needIndex cX9_needIndex 2 none, Cond.classLink RX9 271 "java/lang/IndexOutOfBoundsException", Cond.initialized "java/lang/IndexOutOfBoundsException", Cond.methodLink RX9 122 yX0_pileOf, Cond.static yX0_pileOf, Cond.initialized RX0, Cond.code yX0_pileOf cX0_pileOf 2 (some .int), Cond.methodLink RX9 129 yX0_takeTop, Cond.instanceMethod yX0_takeTop, Cond.selects RX0 yX0_takeTop yX0_takeTop, Cond.code yX0_takeTop cX0_takeTop 3 (some .int)]
def wsL_land_r2 : List Cond := [Cond.fieldLink RX0 19 "AmphoraYard$Fleet" "height" "[I", Cond.fieldLink RX0 9 "AmphoraYard$Fleet" "jars" "LAmphoraYard$Jars;", Cond.methodLink RX0 50 yX0_jarAt, Cond.instanceMethod yX0_jarAt, Cond.selects RX0 yX0_jarAt yX0_jarAt, Cond.code yX0_jarAt cX0_jarAt 3 (some .int), Cond.fieldLink RX0 15 "AmphoraYard$Fleet" "stacked" "[I", Cond.methodLink RX0 39 yX1_move, Cond.instanceMethod yX1_move, Cond.selects RX1 yX1_move yX1_move, Cond.initialized RX1, Cond.code yX1_move cX1_move 4 none, Cond.fieldLink RX1 28 "AmphoraYard$Jars" "place" "[I", Cond.fieldLink RX1 31 "AmphoraYard$Jars" "pile" "[I"]
def wsL_land : List Cond := .codeWith yL_land cL_land 5 (some .int) [(0, 10, 13, 20)] :: ((wsL_land_r1 ++ wsL_land_r2) ++ wsX90 ++ wsX00 ++ wsX10 ++ (vx_atS RX9 275 "java/lang/IndexOutOfBoundsException" ["java/lang/RuntimeException", "java/lang/Exception"]).filter goodWord)
def wsL_storm_r1 : List Cond := [Cond.classLink RL 20 "java/lang/IndexOutOfBoundsException", Cond.classLink RL 13 "java/lang/IllegalArgumentException", Cond.methodLink RL 37 yX9_storm, Cond.instanceMethod yX9_storm, Cond.selects RX9 yX9_storm yX9_storm, Cond.initialized RX9, Cond.code yX9_storm cX9_storm 3 (some .int), Cond.fieldLink RX9 44 "AmphoraYard" "fleet" "LAmphoraYard$Fleet;", Cond.methodLink RX9 106 yX9_needIndex, Cond.static yX9_needIndex, Cond.code yX9_needIndex cX9_needIndex 2 none, Cond.classLink RX9 271 "java/lang/IndexOutOfBoundsException", Cond.initialized "java/lang/IndexOutOfBoundsException", Cond.methodLink RX9 91 yX9_needNumber, Cond.static yX9_needNumber, Cond.code yX9_needNumber cX9_needNumber 3 none, Cond.classLink RX9 193 "java/lang/IllegalArgumentException", Cond.initialized "java/lang/IllegalArgumentException", Cond.methodLink RX9 133 yX0_shake, Cond.instanceMethod yX0_shake, Cond.selects RX0 yX0_shake yX0_shake, Cond.initialized RX0, Cond.code yX0_shake cX0_shake 7 (some .int), Cond.fieldLink RX0 19 "AmphoraYard$Fleet" "height" "[I"]
def wsL_storm_r2 : List Cond := [Cond.methodLink RX0 57 yX0_pileOf, Cond.static yX0_pileOf, Cond.code yX0_pileOf cX0_pileOf 2 (some .int), Cond.methodLink RX0 60 yX0_breakWeak, Cond.instanceMethod yX0_breakWeak, Cond.selects RX0 yX0_breakWeak yX0_breakWeak, Cond.code yX0_breakWeak cX0_breakWeak 6 none, Cond.fieldLink RX0 15 "AmphoraYard$Fleet" "stacked" "[I", Cond.fieldLink RX0 9 "AmphoraYard$Fleet" "jars" "LAmphoraYard$Jars;", Cond.methodLink RX0 67 yX0_bearsInStorm, Cond.instanceMethod yX0_bearsInStorm, Cond.selects RX0 yX0_bearsInStorm yX0_bearsInStorm, Cond.code yX0_bearsInStorm cX0_bearsInStorm 4 (some .int), Cond.methodLink RX0 47 yX1_bears, Cond.instanceMethod yX1_bears, Cond.selects RX1 yX1_bears yX1_bears, Cond.initialized RX1, Cond.code yX1_bears cX1_bears 2 (some .int), Cond.fieldLink RX1 9 "AmphoraYard$Jars" "kinds" "LAmphoraYard$Kinds;", Cond.fieldLink RX1 15 "AmphoraYard$Jars" "kindOf" "[I", Cond.methodLink RX0 39 yX1_move, Cond.instanceMethod yX1_move, Cond.selects RX1 yX1_move yX1_move, Cond.code yX1_move cX1_move 4 none]
def wsL_storm_r3 : List Cond := [Cond.fieldLink RX1 28 "AmphoraYard$Jars" "place" "[I", Cond.fieldLink RX1 31 "AmphoraYard$Jars" "pile" "[I", Cond.methodLink RX0 43 yX1_weight, Cond.instanceMethod yX1_weight, Cond.selects RX1 yX1_weight yX1_weight, Cond.code yX1_weight cX1_weight 2 (some .int), Cond.fieldLink RX1 25 "AmphoraYard$Jars" "oil" "[I", Cond.methodLink RX0 63 yX0_closeGaps, Cond.instanceMethod yX0_closeGaps, Cond.selects RX0 yX0_closeGaps yX0_closeGaps, Cond.code yX0_closeGaps cX0_closeGaps 5 none, Cond.methodLink RX0 35 yX0_setTop, Cond.instanceMethod yX0_setTop, Cond.selects RX0 yX0_setTop yX0_setTop, Cond.code yX0_setTop cX0_setTop 3 none]
def wsL_storm : List Cond := .codeWith yL_storm cL_storm 5 (some .int) [(0, 10, 13, 20), (0, 10, 17, 13)] :: ((wsL_storm_r1 ++ (wsL_storm_r2 ++ wsL_storm_r3)) ++ wsX90 ++ wsX00 ++ wsX10 ++ wsX20 ++ (vx_atS RX9 275 "java/lang/IndexOutOfBoundsException" ["java/lang/RuntimeException", "java/lang/Exception"]).filter goodWord ++ (vx_atS RX9 197 "java/lang/IllegalArgumentException" ["java/lang/RuntimeException", "java/lang/Exception"]).filter goodWord)
def wsL_look_r1 : List Cond := [Cond.classLink RL 20 "java/lang/IndexOutOfBoundsException", Cond.classLink RL 43 "java/util/NoSuchElementException", Cond.methodLink RL 40 yX9_look, Cond.instanceMethod yX9_look, Cond.selects RX9 yX9_look yX9_look, Cond.initialized RX9, Cond.code yX9_look cX9_look 3 (some .int), Cond.classLink RX9 167 "java/util/NoSuchElementException", Cond.initialized "java/util/NoSuchElementException", Cond.fieldLink RX9 35 "AmphoraYard" "jars" "LAmphoraYard$Jars;", Cond.fieldLink RX9 44 "AmphoraYard" "fleet" "LAmphoraYard$Fleet;", Cond.methodLink RX9 106 yX9_needIndex, Cond.static yX9_needIndex, Cond.code yX9_needIndex cX9_needIndex 2 none, Cond.classLink RX9 271 "java/lang/IndexOutOfBoundsException", Cond.initialized "java/lang/IndexOutOfBoundsException", Cond.methodLink RX9 152 yX1_weight, Cond.instanceMethod yX1_weight, Cond.selects RX1 yX1_weight yX1_weight, Cond.initialized RX1, Cond.code yX1_weight cX1_weight 2 (some .int), Cond.fieldLink RX1 9 "AmphoraYard$Jars" "kinds" "LAmphoraYard$Kinds;", Cond.fieldLink RX1 15 "AmphoraYard$Jars" "kindOf" "[I", Cond.fieldLink RX1 25 "AmphoraYard$Jars" "oil" "[I"]
def wsL_look_r2 : List Cond := [Cond.methodLink RX9 158 yX0_shipOf, Cond.static yX0_shipOf, Cond.initialized RX0, Cond.code yX0_shipOf cX0_shipOf 1 (some .int), Cond.methodLink RX9 161 yX0_holdOf, Cond.static yX0_holdOf, Cond.code yX0_holdOf cX0_holdOf 1 (some .int), Cond.methodLink RX9 164 yX0_weightAbove, Cond.instanceMethod yX0_weightAbove, Cond.selects RX0 yX0_weightAbove yX0_weightAbove, Cond.code yX0_weightAbove cX0_weightAbove 6 (some .int), Cond.fieldLink RX0 9 "AmphoraYard$Fleet" "jars" "LAmphoraYard$Jars;", Cond.fieldLink RX0 19 "AmphoraYard$Fleet" "height" "[I", Cond.fieldLink RX0 15 "AmphoraYard$Fleet" "stacked" "[I", Cond.methodLink RX0 43 yX1_weight]
def wsL_look : List Cond := .codeWith yL_look cL_look 5 (some .int) [(0, 10, 13, 20), (0, 10, 17, 43)] :: ((wsL_look_r1 ++ wsL_look_r2) ++ wsX90 ++ wsX10 ++ wsX20 ++ wsX00 ++ (hn_atS RX9 171 "java/util/NoSuchElementException" ["java/lang/RuntimeException", "java/lang/Exception"]).filter goodWord ++ (vx_atS RX9 275 "java/lang/IndexOutOfBoundsException" ["java/lang/RuntimeException", "java/lang/Exception"]).filter goodWord)
def wsL_stack_r1 : List Cond := [Cond.classLink RL 20 "java/lang/IndexOutOfBoundsException", Cond.methodLink RL 45 yX9_stack, Cond.instanceMethod yX9_stack, Cond.selects RX9 yX9_stack yX9_stack, Cond.initialized RX9, Cond.code yX9_stack cX9_stack 4 (some .int), Cond.fieldLink RX9 44 "AmphoraYard" "fleet" "LAmphoraYard$Fleet;", Cond.methodLink RX9 119 yX9_needHold, Cond.instanceMethod yX9_needHold, Cond.selects RX9 yX9_needHold yX9_needHold, Cond.code yX9_needHold cX9_needHold 3 none, Cond.methodLink RX9 106 yX9_needIndex, Cond.static yX9_needIndex, Cond.code yX9_needIndex cX9_needIndex 2 none, Cond.classLink RX9 271 "java/lang/IndexOutOfBoundsException", Cond.initialized "java/lang/IndexOutOfBoundsException", Cond.methodLink RX9 122 yX0_pileOf, Cond.static yX0_pileOf, Cond.initialized RX0, Cond.code yX0_pileOf cX0_pileOf 2 (some .int), Cond.methodLink RX9 174 yX0_jarAt, Cond.instanceMethod yX0_jarAt, Cond.selects RX0 yX0_jarAt yX0_jarAt, Cond.code yX0_jarAt cX0_jarAt 3 (some .int)]
def wsL_stack_r2 : List Cond := [Cond.fieldLink RX0 19 "AmphoraYard$Fleet" "height" "[I", Cond.fieldLink RX0 15 "AmphoraYard$Fleet" "stacked" "[I"]
def wsL_stack : List Cond := .codeWith yL_stack cL_stack 6 (some .int) [(0, 12, 15, 20)] :: ((wsL_stack_r1 ++ wsL_stack_r2) ++ wsX90 ++ wsX00 ++ (vx_atS RX9 275 "java/lang/IndexOutOfBoundsException" ["java/lang/RuntimeException", "java/lang/Exception"]).filter goodWord)
def wsL_tallest_r1 : List Cond := [Cond.classLink RL 13 "java/lang/IllegalArgumentException", Cond.methodLink RL 48 yX9_tallest, Cond.instanceMethod yX9_tallest, Cond.selects RX9 yX9_tallest yX9_tallest, Cond.initialized RX9, Cond.code yX9_tallest cX9_tallest 2 (some .int), Cond.fieldLink RX9 51 "AmphoraYard" "stacker" "LAmphoraYard$Stacker;", Cond.methodLink RX9 177 yX6_choose, Cond.instanceMethod yX6_choose, Cond.selects RX6 yX6_choose yX6_choose, Cond.initialized RX6, Cond.code yX6_choose cX6_choose 3 (some .int), Cond.fieldLink RX6 20 "AmphoraYard$Stacker" "size" "I", Cond.fieldLink RX6 7 "AmphoraYard$Stacker" "jars" "LAmphoraYard$Jars;", Cond.methodLink RX6 30 yX6_insert, Cond.instanceMethod yX6_insert, Cond.selects RX6 yX6_insert yX6_insert, Cond.code yX6_insert cX6_insert 3 none, Cond.fieldLink RX6 13 "AmphoraYard$Stacker" "chosen" "[I", Cond.methodLink RX6 34 yX6_reach, Cond.instanceMethod yX6_reach, Cond.selects RX6 yX6_reach yX6_reach, Cond.code yX6_reach cX6_reach 2 (some .int), Cond.methodLink RX6 38 yX1_weight]
def wsL_tallest_r2 : List Cond := [Cond.instanceMethod yX1_weight, Cond.selects RX1 yX1_weight yX1_weight, Cond.initialized RX1, Cond.code yX1_weight cX1_weight 2 (some .int), Cond.fieldLink RX1 9 "AmphoraYard$Jars" "kinds" "LAmphoraYard$Kinds;", Cond.fieldLink RX1 15 "AmphoraYard$Jars" "kindOf" "[I", Cond.fieldLink RX1 25 "AmphoraYard$Jars" "oil" "[I", Cond.methodLink RX6 41 yX1_bears, Cond.instanceMethod yX1_bears, Cond.selects RX1 yX1_bears yX1_bears, Cond.code yX1_bears cX1_bears 2 (some .int), Cond.methodLink RX9 91 yX9_needNumber, Cond.static yX9_needNumber, Cond.code yX9_needNumber cX9_needNumber 3 none, Cond.classLink RX9 193 "java/lang/IllegalArgumentException", Cond.initialized "java/lang/IllegalArgumentException", Cond.methodLink RX9 180 yX6_greatest, Cond.instanceMethod yX6_greatest, Cond.selects RX6 yX6_greatest yX6_greatest, Cond.code yX6_greatest cX6_greatest 5 (some .int), Cond.fieldLink RX6 17 "AmphoraYard$Stacker" "lightest" "[I", Cond.constant RX6 44 (1000000000), Cond.methodLink RX6 45 Lib.Math.min.name, Cond.static Lib.Math.min.name]
def wsL_tallest_r3 : List Cond := [Cond.initialized "java/lang/Math", Cond.code Lib.Math.min.name Lib.Math.min.code 2 (some .int)]
def wsL_tallest : List Cond := .codeWith yL_tallest cL_tallest 4 (some .int) [(0, 9, 12, 13)] :: ((wsL_tallest_r1 ++ (wsL_tallest_r2 ++ wsL_tallest_r3)) ++ wsX90 ++ wsX60 ++ wsX10 ++ wsX20 ++ (vx_atS RX9 197 "java/lang/IllegalArgumentException" ["java/lang/RuntimeException", "java/lang/Exception"]).filter goodWord)
def wsL_rate : List Cond := .codeWith yL_rate cL_rate 4 (some .int) [(0, 6, 9, 20), (0, 6, 12, 13)] :: ([.classLink RL 20 "java/lang/IndexOutOfBoundsException", .classLink RL 13 "java/lang/IllegalArgumentException", .methodLink RL 52 yX9_rate, .instanceMethod yX9_rate, .selects RX9 yX9_rate yX9_rate, .initialized RX9, .code yX9_rate cX9_rate 3 none, .fieldLink RX9 58 "AmphoraYard" "ports" "LAmphoraYard$Ports;", .methodLink RX9 106 yX9_needIndex, .static yX9_needIndex, .code yX9_needIndex cX9_needIndex 2 none, .classLink RX9 271 "java/lang/IndexOutOfBoundsException", .initialized "java/lang/IndexOutOfBoundsException", .methodLink RX9 91 yX9_needNumber, .static yX9_needNumber, .code yX9_needNumber cX9_needNumber 3 none, .classLink RX9 193 "java/lang/IllegalArgumentException", .initialized "java/lang/IllegalArgumentException"] ++ wsX90 ++ wsX40 ++ (vx_atS RX9 275 "java/lang/IndexOutOfBoundsException" ["java/lang/RuntimeException", "java/lang/Exception"]).filter goodWord ++ (vx_atS RX9 197 "java/lang/IllegalArgumentException" ["java/lang/RuntimeException", "java/lang/Exception"]).filter goodWord)
def wsL_check_r1 : List Cond := [Cond.classLink RL 20 "java/lang/IndexOutOfBoundsException", Cond.classLink RL 13 "java/lang/IllegalArgumentException", Cond.methodLink RL 56 yX9_check, Cond.instanceMethod yX9_check, Cond.selects RX9 yX9_check yX9_check, Cond.initialized RX9, Cond.code yX9_check cX9_check 4 (some .int), Cond.classLink RX9 193 "java/lang/IllegalArgumentException", Cond.initialized "java/lang/IllegalArgumentException", Cond.fieldLink RX9 19 "AmphoraYard" "note" "LAmphoraYard$Note;", Cond.fieldLink RX9 10 "AmphoraYard" "tape" "LAmphoraYard$Tape;", Cond.fieldLink RX9 76 "AmphoraYard" "wrongByte" "I", Cond.fieldLink RX9 58 "AmphoraYard" "ports" "LAmphoraYard$Ports;", Cond.methodLink RX9 186 yX3_readFrom, Cond.instanceMethod yX3_readFrom, Cond.selects RX3 yX3_readFrom yX3_readFrom, Cond.initialized RX3, Cond.code yX3_readFrom cX3_readFrom 6 (some .int), Cond.fieldLink RX3 11 "AmphoraYard$Note" "numbers" "[I", Cond.methodLink RX3 15 yX7_past, Cond.instanceMethod yX7_past, Cond.selects RX7 yX7_past yX7_past, Cond.initialized RX7, Cond.code yX7_past cX7_past 5 (some .int)]
def wsL_check_r2 : List Cond := [Cond.fieldLink RX7 15 "AmphoraYard$Tape" "size" "I", Cond.fieldLink RX7 11 "AmphoraYard$Tape" "bytes" "[B", Cond.methodLink RX3 21 yX3_wordOf, Cond.static yX3_wordOf, Cond.code yX3_wordOf cX3_wordOf 1 (some (.object "java/lang/String")), Cond.methodLink RX3 25 yX7_reads, Cond.instanceMethod yX7_reads, Cond.selects RX7 yX7_reads yX7_reads, Cond.code yX7_reads cX7_reads 5 (some .boolean), Cond.methodLink RX7 23 yJ0_length_8abf5, Cond.instanceMethod yJ0_length_8abf5, Cond.selects RJ0 yJ0_length_8abf5 yJ0_length_8abf5, Cond.initialized RJ0, Cond.code yJ0_length_8abf5 cJ0_length_8abf5 1 (some .int), Cond.fieldLink RJ0 9 "java/lang/String" "value" "[B", Cond.methodLink RJ0 335 yJ0_coder_7d493, Cond.instanceMethod yJ0_coder_7d493, Cond.selects RJ0 yJ0_coder_7d493 yJ0_coder_7d493, Cond.code yJ0_coder_7d493 cJ0_coder_7d493 1 (some .byte), Cond.fieldLink RJ0 38 "java/lang/String" "COMPACT_STRINGS" "Z", Cond.fieldLink RJ0 15 "java/lang/String" "coder" "B", Cond.methodLink RX7 29 yJ0_charAt_5068e, Cond.instanceMethod yJ0_charAt_5068e, Cond.selects RJ0 yJ0_charAt_5068e yJ0_charAt_5068e]
def wsL_check_r3 : List Cond := [Cond.code yJ0_charAt_5068e cJ0_charAt_5068e 2 (some .char), Cond.methodLink RJ0 492 yJ0_isLatin1_aae02, Cond.instanceMethod yJ0_isLatin1_aae02, Cond.selects RJ0 yJ0_isLatin1_aae02 yJ0_isLatin1_aae02, Cond.code yJ0_isLatin1_aae02 cJ0_isLatin1_aae02 1 (some .boolean), Cond.methodLink RJ0 495 yJ1_charAt_3b067, Cond.static yJ1_charAt_3b067, Cond.initialized RJ1, Cond.code yJ1_charAt_3b067 cJ1_charAt_3b067 2 (some .char), Cond.methodLink RJ1 9 yJ0_checkIndex_df160, Cond.static yJ0_checkIndex_df160, Cond.code yJ0_checkIndex_df160 cJ0_checkIndex_df160 2 none, Cond.fieldLink RJ0 1053 "jdk/internal/util/Preconditions" "SIOOBE_FORMATTER" "Ljava/util/function/BiFunction;", Cond.methodLink RJ0 1059 yJ3_checkIndex_8e157, Cond.static yJ3_checkIndex_8e157, Cond.initialized RJ3, Cond.code yJ3_checkIndex_8e157 cJ3_checkIndex_8e157 3 (some .int), Cond.methodLink RJ0 498 yJ2_charAt_3b067, Cond.static yJ2_charAt_3b067, Cond.initialized RJ2, Cond.code yJ2_charAt_3b067 cJ2_charAt_3b067 2 (some .char), Cond.methodLink RJ2 67 yJ2_checkIndex_2214a, Cond.static yJ2_checkIndex_2214a, Cond.code yJ2_checkIndex_2214a cJ2_checkIndex_2214a 2 none]
def wsL_check_r4 : List Cond := [Cond.methodLink RJ2 48 yJ2_length_9d52b, Cond.static yJ2_length_9d52b, Cond.code yJ2_length_9d52b cJ2_length_9d52b 1 (some .int), Cond.methodLink RJ2 414 yJ0_checkIndex_df160, Cond.methodLink RJ2 71 yJ2_getChar_3b067, Cond.static yJ2_getChar_3b067, Cond.code yJ2_getChar_3b067 cJ2_getChar_3b067 2 (some .char), Cond.fieldLink RJ2 44 "java/lang/StringUTF16" "$assertionsDisabled" "Z", Cond.fieldLink RJ2 59 "java/lang/StringUTF16" "HI_BYTE_SHIFT" "I", Cond.fieldLink RJ2 63 "java/lang/StringUTF16" "LO_BYTE_SHIFT" "I", Cond.methodLink RX3 29 yX7_digitsFrom, Cond.instanceMethod yX7_digitsFrom, Cond.selects RX7 yX7_digitsFrom yX7_digitsFrom, Cond.code yX7_digitsFrom cX7_digitsFrom 5 (some .int), Cond.methodLink RX3 33 yX7_endsAt, Cond.instanceMethod yX7_endsAt, Cond.selects RX7 yX7_endsAt yX7_endsAt, Cond.code yX7_endsAt cX7_endsAt 2 (some .boolean), Cond.methodLink RX9 190 yX7_clear, Cond.instanceMethod yX7_clear, Cond.selects RX7 yX7_clear yX7_clear, Cond.code yX7_clear cX7_clear 1 none, Cond.methodLink RX9 106 yX9_needIndex, Cond.static yX9_needIndex]
def wsL_check_r5 : List Cond := [Cond.code yX9_needIndex cX9_needIndex 2 none, Cond.classLink RX9 271 "java/lang/IndexOutOfBoundsException", Cond.initialized "java/lang/IndexOutOfBoundsException", Cond.methodLink RX9 198 yX9_falsehoodAt, Cond.instanceMethod yX9_falsehoodAt, Cond.selects RX9 yX9_falsehoodAt yX9_falsehoodAt, Cond.code yX9_falsehoodAt cX9_falsehoodAt 3 (some .int), Cond.fieldLink RX9 35 "AmphoraYard" "jars" "LAmphoraYard$Jars;", Cond.methodLink RX9 286 yX4_due, Cond.instanceMethod yX4_due, Cond.selects RX4 yX4_due yX4_due, Cond.initialized RX4, Cond.code yX4_due cX4_due 3 (some .int), Cond.fieldLink RX4 9 "AmphoraYard$Ports" "rate" "[I", Cond.methodLink RX9 201 yX4_countNote, Cond.instanceMethod yX4_countNote, Cond.selects RX4 yX4_countNote yX4_countNote, Cond.code yX4_countNote cX4_countNote 3 none, Cond.fieldLink RX4 13 "AmphoraYard$Ports" "checked" "[I", Cond.fieldLink RX4 16 "AmphoraYard$Ports" "foundFalse" "[I"]
def wsL_check : List Cond := .codeWith yL_check cL_check 4 (some .int) [(0, 9, 12, 20), (0, 9, 15, 13)] :: ((wsL_check_r1 ++ (wsL_check_r2 ++ (wsL_check_r3 ++ (wsL_check_r4 ++ wsL_check_r5)))) ++ wsX90 ++ wsX30 ++ wsX70 ++ wsX10 ++ wsX40 ++ (vx_atS RX9 197 "java/lang/IllegalArgumentException" ["java/lang/RuntimeException", "java/lang/Exception"]).filter goodWord ++ (vx_atS RX9 275 "java/lang/IndexOutOfBoundsException" ["java/lang/RuntimeException", "java/lang/Exception"]).filter goodWord)
def wsL_notes : List Cond := .codeWith yL_notes cL_notes 5 (some .int) [(0, 10, 13, 20)] :: ([.classLink RL 20 "java/lang/IndexOutOfBoundsException", .methodLink RL 59 yX9_notes, .instanceMethod yX9_notes, .selects RX9 yX9_notes yX9_notes, .initialized RX9, .code yX9_notes cX9_notes 3 (some .int), .fieldLink RX9 58 "AmphoraYard" "ports" "LAmphoraYard$Ports;", .methodLink RX9 106 yX9_needIndex, .static yX9_needIndex, .code yX9_needIndex cX9_needIndex 2 none, .classLink RX9 271 "java/lang/IndexOutOfBoundsException", .initialized "java/lang/IndexOutOfBoundsException"] ++ wsX90 ++ wsX40 ++ (vx_atS RX9 275 "java/lang/IndexOutOfBoundsException" ["java/lang/RuntimeException", "java/lang/Exception"]).filter goodWord)
def wsL_sherd_r1 : List Cond := [Cond.classLink RL 20 "java/lang/IndexOutOfBoundsException", Cond.classLink RL 13 "java/lang/IllegalArgumentException", Cond.classLink RL 15 "java/lang/UnsupportedOperationException", Cond.methodLink RL 63 yX9_sherd, Cond.instanceMethod yX9_sherd, Cond.selects RX9 yX9_sherd yX9_sherd, Cond.initialized RX9, Cond.code yX9_sherd cX9_sherd 3 (some .int), Cond.fieldLink RX9 65 "AmphoraYard" "sherds" "LAmphoraYard$Sherds;", Cond.methodLink RX9 91 yX9_needNumber, Cond.static yX9_needNumber, Cond.code yX9_needNumber cX9_needNumber 3 none, Cond.classLink RX9 193 "java/lang/IllegalArgumentException", Cond.initialized "java/lang/IllegalArgumentException", Cond.methodLink RX9 211 yX9_needStampOrNone, Cond.static yX9_needStampOrNone, Cond.code yX9_needStampOrNone cX9_needStampOrNone 1 none, Cond.methodLink RX9 106 yX9_needIndex, Cond.static yX9_needIndex, Cond.code yX9_needIndex cX9_needIndex 2 none, Cond.classLink RX9 271 "java/lang/IndexOutOfBoundsException", Cond.initialized "java/lang/IndexOutOfBoundsException", Cond.methodLink RX9 98 yX9_needPlace, Cond.static yX9_needPlace]
def wsL_sherd_r2 : List Cond := [Cond.code yX9_needPlace cX9_needPlace 2 none, Cond.classLink RX9 278 "java/lang/UnsupportedOperationException", Cond.initialized "java/lang/UnsupportedOperationException", Cond.methodLink RX9 216 yX5_add, Cond.instanceMethod yX5_add, Cond.selects RX5 yX5_add yX5_add, Cond.initialized RX5, Cond.code yX5_add cX5_add 3 (some .int), Cond.fieldLink RX5 11 "AmphoraYard$Sherds" "first" "[I", Cond.fieldLink RX5 24 "AmphoraYard$Sherds" "size" "I", Cond.fieldLink RX5 15 "AmphoraYard$Sherds" "members" "[I", Cond.fieldLink RX5 18 "AmphoraYard$Sherds" "clay" "[I", Cond.fieldLink RX5 21 "AmphoraYard$Sherds" "stamp" "[I"]
def wsL_sherd : List Cond := .codeWith yL_sherd cL_sherd 5 (some .int) [(0, 10, 13, 20), (0, 10, 17, 13), (0, 10, 21, 15)] :: ((wsL_sherd_r1 ++ wsL_sherd_r2) ++ wsX90 ++ wsX50 ++ (vx_atS RX9 197 "java/lang/IllegalArgumentException" ["java/lang/RuntimeException", "java/lang/Exception"]).filter goodWord ++ (vx_atS RX9 275 "java/lang/IndexOutOfBoundsException" ["java/lang/RuntimeException", "java/lang/Exception"]).filter goodWord ++ (vx_atS RX9 282 "java/lang/UnsupportedOperationException" ["java/lang/RuntimeException", "java/lang/Exception"]).filter goodWord)
def wsL_join_r1 : List Cond := [Cond.classLink RL 20 "java/lang/IndexOutOfBoundsException", Cond.methodLink RL 66 yX9_join, Cond.instanceMethod yX9_join, Cond.selects RX9 yX9_join yX9_join, Cond.initialized RX9, Cond.code yX9_join cX9_join 3 (some .boolean), Cond.fieldLink RX9 65 "AmphoraYard" "sherds" "LAmphoraYard$Sherds;", Cond.methodLink RX9 106 yX9_needIndex, Cond.static yX9_needIndex, Cond.code yX9_needIndex cX9_needIndex 2 none, Cond.classLink RX9 271 "java/lang/IndexOutOfBoundsException", Cond.initialized "java/lang/IndexOutOfBoundsException", Cond.methodLink RX9 218 yX5_unite, Cond.instanceMethod yX5_unite, Cond.selects RX5 yX5_unite yX5_unite, Cond.initialized RX5, Cond.code yX5_unite cX5_unite 6 (some .boolean), Cond.fieldLink RX5 11 "AmphoraYard$Sherds" "first" "[I", Cond.methodLink RX5 28 Lib.Math.min.name, Cond.static Lib.Math.min.name, Cond.initialized "java/lang/Math", Cond.code Lib.Math.min.name Lib.Math.min.code 2 (some .int), Cond.methodLink RX5 34 Lib.Math.max.name, Cond.static Lib.Math.max.name]
def wsL_join_r2 : List Cond := [Cond.code Lib.Math.max.name Lib.Math.max.code 2 (some .int), Cond.fieldLink RX5 24 "AmphoraYard$Sherds" "size" "I", Cond.fieldLink RX5 15 "AmphoraYard$Sherds" "members" "[I", Cond.fieldLink RX5 21 "AmphoraYard$Sherds" "stamp" "[I", Cond.methodLink RX5 37 yX5_fit, Cond.instanceMethod yX5_fit, Cond.selects RX5 yX5_fit yX5_fit, Cond.code yX5_fit cX5_fit 4 (some .boolean), Cond.fieldLink RX5 18 "AmphoraYard$Sherds" "clay" "[I"]
def wsL_join : List Cond := .codeWith yL_join cL_join 5 (some .int) [(0, 17, 20, 20)] :: ((wsL_join_r1 ++ wsL_join_r2) ++ wsX90 ++ wsX50 ++ (vx_atS RX9 275 "java/lang/IndexOutOfBoundsException" ["java/lang/RuntimeException", "java/lang/Exception"]).filter goodWord)
def wsL_vessels_r1 : List Cond := [Cond.classLink RL 20 "java/lang/IndexOutOfBoundsException", Cond.methodLink RL 70 yX9_vessels, Cond.instanceMethod yX9_vessels, Cond.selects RX9 yX9_vessels yX9_vessels, Cond.initialized RX9, Cond.code yX9_vessels cX9_vessels 2 (some .int), Cond.fieldLink RX9 65 "AmphoraYard" "sherds" "LAmphoraYard$Sherds;", Cond.methodLink RX9 211 yX9_needStampOrNone, Cond.static yX9_needStampOrNone, Cond.code yX9_needStampOrNone cX9_needStampOrNone 1 none, Cond.methodLink RX9 106 yX9_needIndex, Cond.static yX9_needIndex, Cond.code yX9_needIndex cX9_needIndex 2 none, Cond.classLink RX9 271 "java/lang/IndexOutOfBoundsException", Cond.initialized "java/lang/IndexOutOfBoundsException", Cond.methodLink RX9 221 yX5_allVessels, Cond.instanceMethod yX5_allVessels, Cond.selects RX5 yX5_allVessels yX5_allVessels, Cond.initialized RX5, Cond.code yX5_allVessels cX5_allVessels 3 (some .int), Cond.fieldLink RX5 24 "AmphoraYard$Sherds" "size" "I", Cond.fieldLink RX5 11 "AmphoraYard$Sherds" "first" "[I", Cond.methodLink RX9 224 yX5_vesselsWith, Cond.instanceMethod yX5_vesselsWith]
def wsL_vessels_r2 : List Cond := [Cond.selects RX5 yX5_vesselsWith yX5_vesselsWith, Cond.code yX5_vesselsWith cX5_vesselsWith 4 (some .int), Cond.fieldLink RX5 21 "AmphoraYard$Sherds" "stamp" "[I"]
def wsL_vessels : List Cond := .codeWith yL_vessels cL_vessels 4 (some .int) [(0, 9, 12, 20)] :: ((wsL_vessels_r1 ++ wsL_vessels_r2) ++ wsX90 ++ wsX50 ++ (vx_atS RX9 275 "java/lang/IndexOutOfBoundsException" ["java/lang/RuntimeException", "java/lang/Exception"]).filter goodWord)
def wsL_vessel : List Cond := .codeWith yL_vessel cL_vessel 5 (some .int) [(0, 10, 13, 20), (0, 10, 17, 43)] :: ([.classLink RL 20 "java/lang/IndexOutOfBoundsException", .classLink RL 43 "java/util/NoSuchElementException", .methodLink RL 73 yX9_vessel, .instanceMethod yX9_vessel, .selects RX9 yX9_vessel yX9_vessel, .initialized RX9, .code yX9_vessel cX9_vessel 4 (some .int), .classLink RX9 167 "java/util/NoSuchElementException", .initialized "java/util/NoSuchElementException", .fieldLink RX9 65 "AmphoraYard" "sherds" "LAmphoraYard$Sherds;", .methodLink RX9 106 yX9_needIndex, .static yX9_needIndex, .code yX9_needIndex cX9_needIndex 2 none, .classLink RX9 271 "java/lang/IndexOutOfBoundsException", .initialized "java/lang/IndexOutOfBoundsException"] ++ wsX90 ++ wsX50 ++ (hn_atS RX9 171 "java/util/NoSuchElementException" ["java/lang/RuntimeException", "java/lang/Exception"]).filter goodWord ++ (vx_atS RX9 275 "java/lang/IndexOutOfBoundsException" ["java/lang/RuntimeException", "java/lang/Exception"]).filter goodWord)
def wsL_tell_r1 : List Cond := [Cond.classLink RL 20 "java/lang/IndexOutOfBoundsException", Cond.classLink RL 13 "java/lang/IllegalArgumentException", Cond.classLink RL 15 "java/lang/UnsupportedOperationException", Cond.methodLink RL 76 yX9_tell, Cond.instanceMethod yX9_tell, Cond.selects RX9 yX9_tell yX9_tell, Cond.initialized RX9, Cond.code yX9_tell cX9_tell 4 (some .int), Cond.classLink RX9 193 "java/lang/IllegalArgumentException", Cond.initialized "java/lang/IllegalArgumentException", Cond.fieldLink RX9 72 "AmphoraYard" "tellings" "LAmphoraYard$Tellings;", Cond.fieldLink RX9 80 "AmphoraYard" "today" "I", Cond.methodLink RX9 106 yX9_needIndex, Cond.static yX9_needIndex, Cond.code yX9_needIndex cX9_needIndex 2 none, Cond.classLink RX9 271 "java/lang/IndexOutOfBoundsException", Cond.initialized "java/lang/IndexOutOfBoundsException", Cond.methodLink RX9 91 yX9_needNumber, Cond.static yX9_needNumber, Cond.code yX9_needNumber cX9_needNumber 3 none, Cond.methodLink RX9 98 yX9_needPlace, Cond.static yX9_needPlace, Cond.code yX9_needPlace cX9_needPlace 2 none, Cond.classLink RX9 278 "java/lang/UnsupportedOperationException"]
def wsL_tell_r2 : List Cond := [Cond.initialized "java/lang/UnsupportedOperationException", Cond.methodLink RX9 241 yX8_add, Cond.instanceMethod yX8_add, Cond.selects RX8 yX8_add yX8_add, Cond.initialized RX8, Cond.code yX8_add cX8_add 5 (some .int), Cond.fieldLink RX8 11 "AmphoraYard$Tellings" "earlier" "[I", Cond.fieldLink RX8 36 "AmphoraYard$Tellings" "size" "I", Cond.fieldLink RX8 15 "AmphoraYard$Tellings" "later" "[I", Cond.fieldLink RX8 18 "AmphoraYard$Tellings" "years" "[I", Cond.fieldLink RX8 21 "AmphoraYard$Tellings" "toldOn" "[I", Cond.fieldLink RX8 24 "AmphoraYard$Tellings" "takenBackOn" "[I"]
def wsL_tell : List Cond := .codeWith yL_tell cL_tell 6 (some .int) [(0, 12, 15, 20), (0, 12, 19, 13), (0, 12, 23, 15)] :: ((wsL_tell_r1 ++ wsL_tell_r2) ++ wsX90 ++ wsX80 ++ (vx_atS RX9 197 "java/lang/IllegalArgumentException" ["java/lang/RuntimeException", "java/lang/Exception"]).filter goodWord ++ (vx_atS RX9 275 "java/lang/IndexOutOfBoundsException" ["java/lang/RuntimeException", "java/lang/Exception"]).filter goodWord ++ (vx_atS RX9 282 "java/lang/UnsupportedOperationException" ["java/lang/RuntimeException", "java/lang/Exception"]).filter goodWord)
def wsL_bound_r1 : List Cond := [Cond.classLink RL 20 "java/lang/IndexOutOfBoundsException", Cond.classLink RL 13 "java/lang/IllegalArgumentException", Cond.classLink RL 15 "java/lang/UnsupportedOperationException", Cond.methodLink RL 79 yX9_bound, Cond.instanceMethod yX9_bound, Cond.selects RX9 yX9_bound yX9_bound, Cond.initialized RX9, Cond.code yX9_bound cX9_bound 4 (some .int), Cond.fieldLink RX9 72 "AmphoraYard" "tellings" "LAmphoraYard$Tellings;", Cond.fieldLink RX9 80 "AmphoraYard" "today" "I", Cond.methodLink RX9 106 yX9_needIndex, Cond.static yX9_needIndex, Cond.code yX9_needIndex cX9_needIndex 2 none, Cond.classLink RX9 271 "java/lang/IndexOutOfBoundsException", Cond.initialized "java/lang/IndexOutOfBoundsException", Cond.methodLink RX9 91 yX9_needNumber, Cond.static yX9_needNumber, Cond.code yX9_needNumber cX9_needNumber 3 none, Cond.classLink RX9 193 "java/lang/IllegalArgumentException", Cond.initialized "java/lang/IllegalArgumentException", Cond.methodLink RX9 98 yX9_needPlace, Cond.static yX9_needPlace, Cond.code yX9_needPlace cX9_needPlace 2 none, Cond.classLink RX9 278 "java/lang/UnsupportedOperationException"]
def wsL_bound_r2 : List Cond := [Cond.initialized "java/lang/UnsupportedOperationException", Cond.methodLink RX9 241 yX8_add, Cond.instanceMethod yX8_add, Cond.selects RX8 yX8_add yX8_add, Cond.initialized RX8, Cond.code yX8_add cX8_add 5 (some .int), Cond.fieldLink RX8 11 "AmphoraYard$Tellings" "earlier" "[I", Cond.fieldLink RX8 36 "AmphoraYard$Tellings" "size" "I", Cond.fieldLink RX8 15 "AmphoraYard$Tellings" "later" "[I", Cond.fieldLink RX8 18 "AmphoraYard$Tellings" "years" "[I", Cond.fieldLink RX8 21 "AmphoraYard$Tellings" "toldOn" "[I", Cond.fieldLink RX8 24 "AmphoraYard$Tellings" "takenBackOn" "[I"]
def wsL_bound : List Cond := .codeWith yL_bound cL_bound 6 (some .int) [(0, 12, 15, 20), (0, 12, 19, 13), (0, 12, 23, 15)] :: ((wsL_bound_r1 ++ wsL_bound_r2) ++ wsX90 ++ wsX80 ++ (vx_atS RX9 275 "java/lang/IndexOutOfBoundsException" ["java/lang/RuntimeException", "java/lang/Exception"]).filter goodWord ++ (vx_atS RX9 197 "java/lang/IllegalArgumentException" ["java/lang/RuntimeException", "java/lang/Exception"]).filter goodWord ++ (vx_atS RX9 282 "java/lang/UnsupportedOperationException" ["java/lang/RuntimeException", "java/lang/Exception"]).filter goodWord)
def wsL_undo : List Cond := .codeWith yL_undo cL_undo 4 (some .int) [(0, 16, 19, 20)] :: ([.classLink RL 20 "java/lang/IndexOutOfBoundsException", .methodLink RL 83 yX9_undo, .instanceMethod yX9_undo, .selects RX9 yX9_undo yX9_undo, .initialized RX9, .code yX9_undo cX9_undo 2 (some .boolean), .fieldLink RX9 72 "AmphoraYard" "tellings" "LAmphoraYard$Tellings;", .fieldLink RX9 80 "AmphoraYard" "today" "I", .methodLink RX9 106 yX9_needIndex, .static yX9_needIndex, .code yX9_needIndex cX9_needIndex 2 none, .classLink RX9 271 "java/lang/IndexOutOfBoundsException", .initialized "java/lang/IndexOutOfBoundsException", .methodLink RX9 244 yX8_takeBack, .instanceMethod yX8_takeBack, .selects RX8 yX8_takeBack yX8_takeBack, .initialized RX8, .code yX8_takeBack cX8_takeBack 3 (some .boolean), .fieldLink RX8 24 "AmphoraYard$Tellings" "takenBackOn" "[I"] ++ wsX90 ++ wsX80 ++ (vx_atS RX9 275 "java/lang/IndexOutOfBoundsException" ["java/lang/RuntimeException", "java/lang/Exception"]).filter goodWord)
def wsL_days : List Cond := .codeWith yL_days cL_days 4 (some .int) [(0, 9, 12, 13)] :: ([.classLink RL 13 "java/lang/IllegalArgumentException", .methodLink RL 87 yX9_days, .instanceMethod yX9_days, .selects RX9 yX9_days yX9_days, .initialized RX9, .code yX9_days cX9_days 2 (some .int), .fieldLink RX9 80 "AmphoraYard" "today" "I", .methodLink RX9 91 yX9_needNumber, .static yX9_needNumber, .code yX9_needNumber cX9_needNumber 3 none, .classLink RX9 193 "java/lang/IllegalArgumentException", .initialized "java/lang/IllegalArgumentException"] ++ wsX90 ++ (vx_atS RX9 197 "java/lang/IllegalArgumentException" ["java/lang/RuntimeException", "java/lang/Exception"]).filter goodWord)
def wsL_span_r1 : List Cond := [Cond.classLink RL 20 "java/lang/IndexOutOfBoundsException", Cond.classLink RL 43 "java/util/NoSuchElementException", Cond.methodLink RL 90 yX9_span, Cond.instanceMethod yX9_span, Cond.selects RX9 yX9_span yX9_span, Cond.initialized RX9, Cond.code yX9_span cX9_span 5 (some .int), Cond.classLink RX9 167 "java/util/NoSuchElementException", Cond.initialized "java/util/NoSuchElementException", Cond.fieldLink RX9 72 "AmphoraYard" "tellings" "LAmphoraYard$Tellings;", Cond.constant RX9 259 (-1000000000), Cond.methodLink RX9 106 yX9_needIndex, Cond.static yX9_needIndex, Cond.code yX9_needIndex cX9_needIndex 2 none, Cond.classLink RX9 271 "java/lang/IndexOutOfBoundsException", Cond.initialized "java/lang/IndexOutOfBoundsException", Cond.methodLink RX9 247 yX8_recall, Cond.instanceMethod yX8_recall, Cond.selects RX8 yX8_recall yX8_recall, Cond.initialized RX8, Cond.code yX8_recall cX8_recall 4 none, Cond.fieldLink RX8 40 "AmphoraYard$Tellings" "knownSize" "I", Cond.fieldLink RX8 36 "AmphoraYard$Tellings" "size" "I", Cond.fieldLink RX8 24 "AmphoraYard$Tellings" "takenBackOn" "[I"]
def wsL_span_r2 : List Cond := [Cond.fieldLink RX8 21 "AmphoraYard$Tellings" "toldOn" "[I", Cond.fieldLink RX8 27 "AmphoraYard$Tellings" "known" "[I", Cond.methodLink RX9 250 yX8_canAllHold, Cond.instanceMethod yX8_canAllHold, Cond.selects RX8 yX8_canAllHold yX8_canAllHold, Cond.code yX8_canAllHold cX8_canAllHold 1 (some .boolean), Cond.fieldLink RX8 30 "AmphoraYard$Tellings" "ahead" "[I", Cond.methodLink RX8 43 yX8_setAll, Cond.static yX8_setAll, Cond.code yX8_setAll cX8_setAll 3 none, Cond.methodLink RX8 47 yX8_settles, Cond.instanceMethod yX8_settles, Cond.selects RX8 yX8_settles yX8_settles, Cond.code yX8_settles cX8_settles 2 (some .boolean), Cond.methodLink RX8 52 yX8_pushOn, Cond.instanceMethod yX8_pushOn, Cond.selects RX8 yX8_pushOn yX8_pushOn, Cond.code yX8_pushOn cX8_pushOn 5 (some .boolean), Cond.fieldLink RX8 11 "AmphoraYard$Tellings" "earlier" "[I", Cond.constant RX8 51 (-1000000000), Cond.fieldLink RX8 18 "AmphoraYard$Tellings" "years" "[I", Cond.fieldLink RX8 15 "AmphoraYard$Tellings" "later" "[I", Cond.methodLink RX9 256 yX8_yearsBetween, Cond.instanceMethod yX8_yearsBetween]
def wsL_span_r3 : List Cond := [Cond.selects RX8 yX8_yearsBetween yX8_yearsBetween, Cond.code yX8_yearsBetween cX8_yearsBetween 3 (some .int)]
def wsL_span : List Cond := .codeWith yL_span cL_span 6 (some .int) [(0, 12, 15, 20), (0, 12, 19, 43)] :: ((wsL_span_r1 ++ (wsL_span_r2 ++ wsL_span_r3)) ++ wsX90 ++ wsX80 ++ (hn_atS RX9 171 "java/util/NoSuchElementException" ["java/lang/RuntimeException", "java/lang/Exception"]).filter goodWord ++ (vx_atS RX9 275 "java/lang/IndexOutOfBoundsException" ["java/lang/RuntimeException", "java/lang/Exception"]).filter goodWord)
set_option maxRecDepth 20000 in
theorem ggL_kind_X9_kind : GoodIn wsL_kind wsX9_kind := goodIn_ca (goodIn_ca (goodIn_r _ [7, 8, 9, 10, 6, 11, 12, 13, 14, 15, 16, 17, 18, 19, 20, 21, 22, 23, 24, 25, 26, 27, 28, 29, 30, 31, 32, 33, 34, 35, 36, 37, 38, 39, 40, 41, 42] (by decide +kernel) (by decide +kernel)) (goodIn_sub (fun _ h => List.mem_cons_of_mem _ (List.mem_append_left _ (List.mem_append_right _ h))) (by decide +kernel))) (goodIn_sub (fun _ h => List.mem_cons_of_mem _ (List.mem_append_right _ h)) (by decide +kernel))
set_option maxRecDepth 20000 in
theorem gL_kind_X9_kind : GoodIn wsL_kind (wsV RL 7 RX9 yX9_kind wsX9_kind) := goodIn_app (goodIn_of _ (by decide +kernel)) ggL_kind_X9_kind
theorem dL_kind_0 : decode cL_kind 0 = .ok (.aload 4, 2) := by decide +kernel
theorem dL_kind_2 : decode cL_kind 2 = .ok (.iconst 0, 1) := by decide +kernel
theorem dL_kind_3 : decode cL_kind 3 = .ok (.aload_n 0, 1) := by decide +kernel
theorem dL_kind_4 : decode cL_kind 4 = .ok (.iload_n 1, 1) := by decide +kernel
theorem dL_kind_5 : decode cL_kind 5 = .ok (.iload_n 2, 1) := by decide +kernel
theorem dL_kind_6 : decode cL_kind 6 = .ok (.iload_n 3, 1) := by decide +kernel
theorem dL_kind_7 : decode cL_kind 7 = .ok (.invokevirtual 7, 3) := by decide +kernel
theorem dL_kind_10 : decode cL_kind 10 = .ok (.i2l, 1) := by decide +kernel
theorem dL_kind_11 : decode cL_kind 11 = .ok (.lastore, 1) := by decide +kernel
theorem dL_kind_12 : decode cL_kind 12 = .ok (.goto 11, 3) := by decide +kernel
theorem dL_kind_15 : decode cL_kind 15 = .ok (.astore 5, 2) := by decide +kernel
theorem dL_kind_17 : decode cL_kind 17 = .ok (.iconst 1, 1) := by decide +kernel
theorem dL_kind_18 : decode cL_kind 18 = .ok (.ireturn, 1) := by decide +kernel
theorem dL_kind_19 : decode cL_kind 19 = .ok (.astore 5, 2) := by decide +kernel
theorem dL_kind_21 : decode cL_kind 21 = .ok (.iconst 2, 1) := by decide +kernel
theorem dL_kind_22 : decode cL_kind 22 = .ok (.ireturn, 1) := by decide +kernel
theorem dL_kind_23 : decode cL_kind 23 = .ok (.iconst 0, 1) := by decide +kernel
theorem dL_kind_24 : decode cL_kind 24 = .ok (.ireturn, 1) := by decide +kernel
set_option maxRecDepth 20000 in
theorem ggL_fire_X9_fire : GoodIn wsL_fire wsX9_fire := goodIn_ca (goodIn_ca (goodIn_ca (goodIn_r _ [8, 9, 10, 11, 12, 7, 13, 14, 15, 16, 17, 18, 19, 20, 21, 22, 23, 24, 25, 26, 27, 28, 29, 30, 31, 32, 33, 34, 35, 36, 37, 38, 39, 40, 41, 42, 43, 44, 45, 46, 47, 48, 49, 50, 51, 52, 53, 54, 55, 56, 57, 58, 59, 60] (by decide +kernel) (by decide +kernel)) (goodIn_sub (fun _ h => List.mem_cons_of_mem _ (List.mem_append_left _ (List.mem_append_left _ (List.mem_append_right _ h)))) (by decide +kernel))) (goodIn_sub (fun _ h => List.mem_cons_of_mem _ (List.mem_append_left _ (List.mem_append_right _ h))) (by decide +kernel))) (goodIn_sub (fun _ h => List.mem_cons_of_mem _ (List.mem_append_right _ h)) (by decide +kernel))
set_option maxRecDepth 20000 in
theorem gL_fire_X9_fire : GoodIn wsL_fire (wsV RL 17 RX9 yX9_fire wsX9_fire) := goodIn_app (goodIn_of _ (by decide +kernel)) ggL_fire_X9_fire
theorem dL_fire_0 : decode cL_fire 0 = .ok (.aload 4, 2) := by decide +kernel
theorem dL_fire_2 : decode cL_fire 2 = .ok (.iconst 0, 1) := by decide +kernel
theorem dL_fire_3 : decode cL_fire 3 = .ok (.aload_n 0, 1) := by decide +kernel
theorem dL_fire_4 : decode cL_fire 4 = .ok (.iload_n 1, 1) := by decide +kernel
theorem dL_fire_5 : decode cL_fire 5 = .ok (.iload_n 2, 1) := by decide +kernel
theorem dL_fire_6 : decode cL_fire 6 = .ok (.iload_n 3, 1) := by decide +kernel
theorem dL_fire_7 : decode cL_fire 7 = .ok (.invokevirtual 17, 3) := by decide +kernel
theorem dL_fire_10 : decode cL_fire 10 = .ok (.i2l, 1) := by decide +kernel
theorem dL_fire_11 : decode cL_fire 11 = .ok (.lastore, 1) := by decide +kernel
theorem dL_fire_12 : decode cL_fire 12 = .ok (.goto 15, 3) := by decide +kernel
theorem dL_fire_15 : decode cL_fire 15 = .ok (.astore 5, 2) := by decide +kernel
theorem dL_fire_17 : decode cL_fire 17 = .ok (.iconst 1, 1) := by decide +kernel
theorem dL_fire_18 : decode cL_fire 18 = .ok (.ireturn, 1) := by decide +kernel
theorem dL_fire_19 : decode cL_fire 19 = .ok (.astore 5, 2) := by decide +kernel
theorem dL_fire_21 : decode cL_fire 21 = .ok (.iconst 2, 1) := by decide +kernel
theorem dL_fire_22 : decode cL_fire 22 = .ok (.ireturn, 1) := by decide +kernel
theorem dL_fire_23 : decode cL_fire 23 = .ok (.astore 5, 2) := by decide +kernel
theorem dL_fire_25 : decode cL_fire 25 = .ok (.iconst 3, 1) := by decide +kernel
theorem dL_fire_26 : decode cL_fire 26 = .ok (.ireturn, 1) := by decide +kernel
theorem dL_fire_27 : decode cL_fire 27 = .ok (.iconst 0, 1) := by decide +kernel
theorem dL_fire_28 : decode cL_fire 28 = .ok (.ireturn, 1) := by decide +kernel
set_option maxRecDepth 20000 in
theorem ggL_fill_X9_fill : GoodIn wsL_fill wsX9_fill := goodIn_ca (goodIn_ca (goodIn_r _ [7, 8, 9, 10, 6, 11, 12, 13, 14, 15, 16, 17, 18, 19, 20, 21, 22, 23, 24, 25, 26, 27, 28, 29, 30, 31, 32, 33, 34, 35, 36, 37, 38, 39, 40, 41, 42, 43, 44, 45, 46, 47, 48, 49, 50] (by decide +kernel) (by decide +kernel)) (goodIn_sub (fun _ h => List.mem_cons_of_mem _ (List.mem_append_left _ (List.mem_append_right _ h))) (by decide +kernel))) (goodIn_sub (fun _ h => List.mem_cons_of_mem _ (List.mem_append_right _ h)) (by decide +kernel))
set_option maxRecDepth 20000 in
theorem gL_fill_X9_fill : GoodIn wsL_fill (wsV RL 22 RX9 yX9_fill wsX9_fill) := goodIn_app (goodIn_of _ (by decide +kernel)) ggL_fill_X9_fill
theorem dL_fill_0 : decode cL_fill 0 = .ok (.aload_n 3, 1) := by decide +kernel
theorem dL_fill_1 : decode cL_fill 1 = .ok (.iconst 0, 1) := by decide +kernel
theorem dL_fill_2 : decode cL_fill 2 = .ok (.aload_n 0, 1) := by decide +kernel
theorem dL_fill_3 : decode cL_fill 3 = .ok (.iload_n 1, 1) := by decide +kernel
theorem dL_fill_4 : decode cL_fill 4 = .ok (.iload_n 2, 1) := by decide +kernel
theorem dL_fill_5 : decode cL_fill 5 = .ok (.invokevirtual 22, 3) := by decide +kernel
theorem dL_fill_8 : decode cL_fill 8 = .ok (.i2l, 1) := by decide +kernel
theorem dL_fill_9 : decode cL_fill 9 = .ok (.lastore, 1) := by decide +kernel
theorem dL_fill_10 : decode cL_fill 10 = .ok (.goto 11, 3) := by decide +kernel
theorem dL_fill_13 : decode cL_fill 13 = .ok (.astore 4, 2) := by decide +kernel
theorem dL_fill_15 : decode cL_fill 15 = .ok (.iconst 1, 1) := by decide +kernel
theorem dL_fill_16 : decode cL_fill 16 = .ok (.ireturn, 1) := by decide +kernel
theorem dL_fill_17 : decode cL_fill 17 = .ok (.astore 4, 2) := by decide +kernel
theorem dL_fill_19 : decode cL_fill 19 = .ok (.iconst 2, 1) := by decide +kernel
theorem dL_fill_20 : decode cL_fill 20 = .ok (.ireturn, 1) := by decide +kernel
theorem dL_fill_21 : decode cL_fill 21 = .ok (.iconst 0, 1) := by decide +kernel
theorem dL_fill_22 : decode cL_fill 22 = .ok (.ireturn, 1) := by decide +kernel
set_option maxRecDepth 20000 in
theorem ggL_ship_X9_ship : GoodIn wsL_ship wsX9_ship := goodIn_ca (goodIn_r _ [6, 7, 8, 9, 5, 10, 11, 12, 13, 14, 15, 16, 17, 18, 19, 20, 21, 22, 23, 24, 25, 26, 27, 28, 29, 30, 31, 32, 33] (by decide +kernel) (by decide +kernel)) (goodIn_sub (fun _ h => List.mem_cons_of_mem _ (List.mem_append_right _ h)) (by decide +kernel))
set_option maxRecDepth 20000 in
theorem gL_ship_X9_ship : GoodIn wsL_ship (wsV RL 26 RX9 yX9_ship wsX9_ship) := goodIn_app (goodIn_of _ (by decide +kernel)) ggL_ship_X9_ship
theorem dL_ship_0 : decode cL_ship 0 = .ok (.aload_n 1, 1) := by decide +kernel
theorem dL_ship_1 : decode cL_ship 1 = .ok (.iconst 0, 1) := by decide +kernel
theorem dL_ship_2 : decode cL_ship 2 = .ok (.aload_n 0, 1) := by decide +kernel
theorem dL_ship_3 : decode cL_ship 3 = .ok (.invokevirtual 26, 3) := by decide +kernel
theorem dL_ship_6 : decode cL_ship 6 = .ok (.i2l, 1) := by decide +kernel
theorem dL_ship_7 : decode cL_ship 7 = .ok (.lastore, 1) := by decide +kernel
theorem dL_ship_8 : decode cL_ship 8 = .ok (.goto 6, 3) := by decide +kernel
theorem dL_ship_11 : decode cL_ship 11 = .ok (.astore_n 2, 1) := by decide +kernel
theorem dL_ship_12 : decode cL_ship 12 = .ok (.iconst 1, 1) := by decide +kernel
theorem dL_ship_13 : decode cL_ship 13 = .ok (.ireturn, 1) := by decide +kernel
theorem dL_ship_14 : decode cL_ship 14 = .ok (.iconst 0, 1) := by decide +kernel
theorem dL_ship_15 : decode cL_ship 15 = .ok (.ireturn, 1) := by decide +kernel
set_option maxRecDepth 20000 in
theorem ggL_load_X9_load : GoodIn wsL_load wsX9_load := goodIn_ca (goodIn_r _ [6, 7, 8, 9, 10, 5, 11, 12, 13, 14, 15, 16, 17, 18, 19, 20, 21, 22, 23, 24, 25, 26, 27, 28, 29, 30, 31, 32, 33, 34, 35, 36, 37, 38, 39, 40, 41, 42, 43, 44, 45, 46, 47, 48, 49, 50, 51, 52, 53, 54, 55, 56, 57, 58, 59, 60, 61, 62, 63, 64, 65, 66, 67, 68, 69, 70, 71, 72, 73, 74, 75, 76, 77, 78, 79, 80, 81] (by decide +kernel) (by decide +kernel)) (goodIn_sub (fun _ h => List.mem_cons_of_mem _ (List.mem_append_right _ h)) (by decide +kernel))
set_option maxRecDepth 20000 in
theorem gL_load_X9_load : GoodIn wsL_load (wsV RL 30 RX9 yX9_load wsX9_load) := goodIn_app (goodIn_of _ (by decide +kernel)) ggL_load_X9_load
theorem dL_load_0 : decode cL_load 0 = .ok (.aload 4, 2) := by decide +kernel
theorem dL_load_2 : decode cL_load 2 = .ok (.iconst 0, 1) := by decide +kernel
theorem dL_load_3 : decode cL_load 3 = .ok (.aload_n 0, 1) := by decide +kernel
theorem dL_load_4 : decode cL_load 4 = .ok (.iload_n 1, 1) := by decide +kernel
theorem dL_load_5 : decode cL_load 5 = .ok (.iload_n 2, 1) := by decide +kernel
theorem dL_load_6 : decode cL_load 6 = .ok (.iload_n 3, 1) := by decide +kernel
theorem dL_load_7 : decode cL_load 7 = .ok (.invokevirtual 30, 3) := by decide +kernel
theorem dL_load_10 : decode cL_load 10 = .ok (.ifCond .eq 7, 3) := by decide +kernel
theorem dL_load_13 : decode cL_load 13 = .ok (.lconst 1, 1) := by decide +kernel
theorem dL_load_14 : decode cL_load 14 = .ok (.goto 4, 3) := by decide +kernel
theorem dL_load_17 : decode cL_load 17 = .ok (.lconst 0, 1) := by decide +kernel
theorem dL_load_18 : decode cL_load 18 = .ok (.lastore, 1) := by decide +kernel
theorem dL_load_19 : decode cL_load 19 = .ok (.goto 7, 3) := by decide +kernel
theorem dL_load_22 : decode cL_load 22 = .ok (.astore 5, 2) := by decide +kernel
theorem dL_load_24 : decode cL_load 24 = .ok (.iconst 1, 1) := by decide +kernel
theorem dL_load_25 : decode cL_load 25 = .ok (.ireturn, 1) := by decide +kernel
theorem dL_load_26 : decode cL_load 26 = .ok (.iconst 0, 1) := by decide +kernel
theorem dL_load_27 : decode cL_load 27 = .ok (.ireturn, 1) := by decide +kernel
set_option maxRecDepth 20000 in
theorem ggL_land_X9_land : GoodIn wsL_land wsX9_land := goodIn_ca (goodIn_r _ [6, 7, 8, 9, 10, 5, 11, 12, 13, 14, 15, 16, 17, 18, 19, 20, 21, 22, 23, 24, 25, 26, 27, 28, 29, 30, 31, 32, 33, 34, 35, 36, 37, 38, 39, 40, 41, 42, 43, 44, 45, 46, 47, 48, 49, 50, 51, 52, 53, 54, 55, 56, 57, 58, 59, 60, 61] (by decide +kernel) (by decide +kernel)) (goodIn_sub (fun _ h => List.mem_cons_of_mem _ (List.mem_append_right _ h)) (by decide +kernel))
set_option maxRecDepth 20000 in
theorem gL_land_X9_land : GoodIn wsL_land (wsV RL 34 RX9 yX9_land wsX9_land) := goodIn_app (goodIn_of _ (by decide +kernel)) ggL_land_X9_land
theorem dL_land_0 : decode cL_land 0 = .ok (.aload_n 3, 1) := by decide +kernel
theorem dL_land_1 : decode cL_land 1 = .ok (.iconst 0, 1) := by decide +kernel
theorem dL_land_2 : decode cL_land 2 = .ok (.aload_n 0, 1) := by decide +kernel
theorem dL_land_3 : decode cL_land 3 = .ok (.iload_n 1, 1) := by decide +kernel
theorem dL_land_4 : decode cL_land 4 = .ok (.iload_n 2, 1) := by decide +kernel
theorem dL_land_5 : decode cL_land 5 = .ok (.invokevirtual 34, 3) := by decide +kernel
theorem dL_land_8 : decode cL_land 8 = .ok (.i2l, 1) := by decide +kernel
theorem dL_land_9 : decode cL_land 9 = .ok (.lastore, 1) := by decide +kernel
theorem dL_land_10 : decode cL_land 10 = .ok (.goto 7, 3) := by decide +kernel
theorem dL_land_13 : decode cL_land 13 = .ok (.astore 4, 2) := by decide +kernel
theorem dL_land_15 : decode cL_land 15 = .ok (.iconst 1, 1) := by decide +kernel
theorem dL_land_16 : decode cL_land 16 = .ok (.ireturn, 1) := by decide +kernel
theorem dL_land_17 : decode cL_land 17 = .ok (.iconst 0, 1) := by decide +kernel
theorem dL_land_18 : decode cL_land 18 = .ok (.ireturn, 1) := by decide +kernel
set_option maxRecDepth 20000 in
theorem ggL_storm_X9_storm : GoodIn wsL_storm wsX9_storm := goodIn_ca (goodIn_ca (goodIn_r _ [7, 8, 9, 10, 6, 11, 12, 13, 14, 15, 16, 17, 18, 19, 20, 21, 22, 23, 24, 25, 26, 27, 28, 29, 30, 31, 32, 33, 34, 35, 36, 37, 38, 39, 40, 41, 42, 43, 44, 45, 46, 47, 48, 49, 50, 51, 52, 53, 54, 55, 56, 57, 58, 59, 60, 61, 62, 63, 64, 65, 66, 67, 68, 69, 70, 71, 72, 73, 74, 75, 76, 77, 78, 79, 80, 81, 82, 83, 84, 85, 86, 87, 88, 89, 90] (by decide +kernel) (by decide +kernel)) (goodIn_sub (fun _ h => List.mem_cons_of_mem _ (List.mem_append_left _ (List.mem_append_right _ h))) (by decide +kernel))) (goodIn_sub (fun _ h => List.mem_cons_of_mem _ (List.mem_append_right _ h)) (by decide +kernel))
set_option maxRecDepth 20000 in
theorem gL_storm_X9_storm : GoodIn wsL_storm (wsV RL 37 RX9 yX9_storm wsX9_storm) := goodIn_app (goodIn_of _ (by decide +kernel)) ggL_storm_X9_storm
theorem dL_storm_0 : decode cL_storm 0 = .ok (.aload_n 3, 1) := by decide +kernel
theorem dL_storm_1 : decode cL_storm 1 = .ok (.iconst 0, 1) := by decide +kernel
theorem dL_storm_2 : decode cL_storm 2 = .ok (.aload_n 0, 1) := by decide +kernel
theorem dL_storm_3 : decode cL_storm 3 = .ok (.iload_n 1, 1) := by decide +kernel
theorem dL_storm_4 : decode cL_storm 4 = .ok (.iload_n 2, 1) := by decide +kernel
theorem dL_storm_5 : decode cL_storm 5 = .ok (.invokevirtual 37, 3) := by decide +kernel
theorem dL_storm_8 : decode cL_storm 8 = .ok (.i2l, 1) := by decide +kernel
theorem dL_storm_9 : decode cL_storm 9 = .ok (.lastore, 1) := by decide +kernel
theorem dL_storm_10 : decode cL_storm 10 = .ok (.goto 11, 3) := by decide +kernel
theorem dL_storm_13 : decode cL_storm 13 = .ok (.astore 4, 2) := by decide +kernel
theorem dL_storm_15 : decode cL_storm 15 = .ok (.iconst 1, 1) := by decide +kernel
theorem dL_storm_16 : decode cL_storm 16 = .ok (.ireturn, 1) := by decide +kernel
theorem dL_storm_17 : decode cL_storm 17 = .ok (.astore 4, 2) := by decide +kernel
theorem dL_storm_19 : decode cL_storm 19 = .ok (.iconst 2, 1) := by decide +kernel
theorem dL_storm_20 : decode cL_storm 20 = .ok (.ireturn, 1) := by decide +kernel
theorem dL_storm_21 : decode cL_storm 21 = .ok (.iconst 0, 1) := by decide +kernel
theorem dL_storm_22 : decode cL_storm 22 = .ok (.ireturn, 1) := by decide +kernel
set_option maxRecDepth 20000 in
theorem ggL_look_X9_look : GoodIn wsL_look wsX9_look := goodIn_ca (goodIn_ca (goodIn_r _ [7, 8, 9, 10, 11, 12, 13, 6, 14, 15, 16, 17, 18, 19, 20, 21, 22, 23, 24, 25, 26, 27, 28, 29, 30, 31, 32, 33, 34, 35, 36, 37, 38, 39, 40, 41, 42, 43, 44, 45, 46, 47, 48, 49, 50, 51, 52, 53, 54, 55, 56, 57, 58, 59, 60, 61, 62, 63, 64, 65, 66] (by decide +kernel) (by decide +kernel)) (goodIn_sub (fun _ h => List.mem_cons_of_mem _ (List.mem_append_left _ (List.mem_append_right _ h))) (by decide +kernel))) (goodIn_sub (fun _ h => List.mem_cons_of_mem _ (List.mem_append_right _ h)) (by decide +kernel))
set_option maxRecDepth 20000 in
theorem gL_look_X9_look : GoodIn wsL_look (wsV RL 40 RX9 yX9_look wsX9_look) := goodIn_app (goodIn_of _ (by decide +kernel)) ggL_look_X9_look
theorem dL_look_0 : decode cL_look 0 = .ok (.aload_n 3, 1) := by decide +kernel
theorem dL_look_1 : decode cL_look 1 = .ok (.iconst 0, 1) := by decide +kernel
theorem dL_look_2 : decode cL_look 2 = .ok (.aload_n 0, 1) := by decide +kernel
theorem dL_look_3 : decode cL_look 3 = .ok (.iload_n 1, 1) := by decide +kernel
theorem dL_look_4 : decode cL_look 4 = .ok (.iload_n 2, 1) := by decide +kernel
theorem dL_look_5 : decode cL_look 5 = .ok (.invokevirtual 40, 3) := by decide +kernel
theorem dL_look_8 : decode cL_look 8 = .ok (.i2l, 1) := by decide +kernel
theorem dL_look_9 : decode cL_look 9 = .ok (.lastore, 1) := by decide +kernel
theorem dL_look_10 : decode cL_look 10 = .ok (.goto 11, 3) := by decide +kernel
theorem dL_look_13 : decode cL_look 13 = .ok (.astore 4, 2) := by decide +kernel
theorem dL_look_15 : decode cL_look 15 = .ok (.iconst 1, 1) := by decide +kernel
theorem dL_look_16 : decode cL_look 16 = .ok (.ireturn, 1) := by decide +kernel
theorem dL_look_17 : decode cL_look 17 = .ok (.astore 4, 2) := by decide +kernel
theorem dL_look_19 : decode cL_look 19 = .ok (.iconst 2, 1) := by decide +kernel
theorem dL_look_20 : decode cL_look 20 = .ok (.ireturn, 1) := by decide +kernel
theorem dL_look_21 : decode cL_look 21 = .ok (.iconst 0, 1) := by decide +kernel
theorem dL_look_22 : decode cL_look 22 = .ok (.ireturn, 1) := by decide +kernel
set_option maxRecDepth 20000 in
theorem ggL_stack_X9_stack : GoodIn wsL_stack wsX9_stack := goodIn_ca (goodIn_r _ [6, 7, 8, 9, 10, 5, 11, 12, 13, 14, 15, 16, 17, 18, 19, 20, 21, 22, 23, 24, 25, 26, 27, 28, 29, 30, 31, 32, 33, 34, 35, 36, 37, 38, 39, 40, 41] (by decide +kernel) (by decide +kernel)) (goodIn_sub (fun _ h => List.mem_cons_of_mem _ (List.mem_append_right _ h)) (by decide +kernel))
set_option maxRecDepth 20000 in
theorem gL_stack_X9_stack : GoodIn wsL_stack (wsV RL 45 RX9 yX9_stack wsX9_stack) := goodIn_app (goodIn_of _ (by decide +kernel)) ggL_stack_X9_stack
theorem dL_stack_0 : decode cL_stack 0 = .ok (.aload 4, 2) := by decide +kernel
theorem dL_stack_2 : decode cL_stack 2 = .ok (.iconst 0, 1) := by decide +kernel
theorem dL_stack_3 : decode cL_stack 3 = .ok (.aload_n 0, 1) := by decide +kernel
theorem dL_stack_4 : decode cL_stack 4 = .ok (.iload_n 1, 1) := by decide +kernel
theorem dL_stack_5 : decode cL_stack 5 = .ok (.iload_n 2, 1) := by decide +kernel
theorem dL_stack_6 : decode cL_stack 6 = .ok (.iload_n 3, 1) := by decide +kernel
theorem dL_stack_7 : decode cL_stack 7 = .ok (.invokevirtual 45, 3) := by decide +kernel
theorem dL_stack_10 : decode cL_stack 10 = .ok (.i2l, 1) := by decide +kernel
theorem dL_stack_11 : decode cL_stack 11 = .ok (.lastore, 1) := by decide +kernel
theorem dL_stack_12 : decode cL_stack 12 = .ok (.goto 7, 3) := by decide +kernel
theorem dL_stack_15 : decode cL_stack 15 = .ok (.astore 5, 2) := by decide +kernel
theorem dL_stack_17 : decode cL_stack 17 = .ok (.iconst 1, 1) := by decide +kernel
theorem dL_stack_18 : decode cL_stack 18 = .ok (.ireturn, 1) := by decide +kernel
theorem dL_stack_19 : decode cL_stack 19 = .ok (.iconst 0, 1) := by decide +kernel
theorem dL_stack_20 : decode cL_stack 20 = .ok (.ireturn, 1) := by decide +kernel
set_option maxRecDepth 20000 in
theorem ggL_tallest_X9_tallest : GoodIn wsL_tallest wsX9_tallest := goodIn_ca (goodIn_r _ [6, 7, 8, 9, 10, 11, 12, 13, 14, 15, 16, 17, 18, 19, 20, 21, 22, 23, 24, 25, 26, 27, 28, 29, 30, 31, 32, 33, 34, 35, 36, 37, 5, 38, 39, 40, 41, 42, 43, 44, 45, 46, 47, 48, 49, 50, 51, 52, 53, 54, 55, 56, 57, 58, 59, 60, 61, 62, 63, 64, 65, 66, 67, 68, 69, 70, 71, 72, 73, 74, 75, 76, 77] (by decide +kernel) (by decide +kernel)) (goodIn_sub (fun _ h => List.mem_cons_of_mem _ (List.mem_append_right _ h)) (by decide +kernel))
set_option maxRecDepth 20000 in
theorem gL_tallest_X9_tallest : GoodIn wsL_tallest (wsV RL 48 RX9 yX9_tallest wsX9_tallest) := goodIn_app (goodIn_of _ (by decide +kernel)) ggL_tallest_X9_tallest
theorem dL_tallest_0 : decode cL_tallest 0 = .ok (.aload_n 2, 1) := by decide +kernel
theorem dL_tallest_1 : decode cL_tallest 1 = .ok (.iconst 0, 1) := by decide +kernel
theorem dL_tallest_2 : decode cL_tallest 2 = .ok (.aload_n 0, 1) := by decide +kernel
theorem dL_tallest_3 : decode cL_tallest 3 = .ok (.iload_n 1, 1) := by decide +kernel
theorem dL_tallest_4 : decode cL_tallest 4 = .ok (.invokevirtual 48, 3) := by decide +kernel
theorem dL_tallest_7 : decode cL_tallest 7 = .ok (.i2l, 1) := by decide +kernel
theorem dL_tallest_8 : decode cL_tallest 8 = .ok (.lastore, 1) := by decide +kernel
theorem dL_tallest_9 : decode cL_tallest 9 = .ok (.goto 6, 3) := by decide +kernel
theorem dL_tallest_12 : decode cL_tallest 12 = .ok (.astore_n 3, 1) := by decide +kernel
theorem dL_tallest_13 : decode cL_tallest 13 = .ok (.iconst 1, 1) := by decide +kernel
theorem dL_tallest_14 : decode cL_tallest 14 = .ok (.ireturn, 1) := by decide +kernel
theorem dL_tallest_15 : decode cL_tallest 15 = .ok (.iconst 0, 1) := by decide +kernel
theorem dL_tallest_16 : decode cL_tallest 16 = .ok (.ireturn, 1) := by decide +kernel
set_option maxRecDepth 20000 in
theorem ggL_rate_X9_rate : GoodIn wsL_rate wsX9_rate := goodIn_ca (goodIn_ca (goodIn_r _ [7, 8, 9, 10, 6, 11, 12, 13, 14, 15, 16, 17, 18, 19, 20, 21, 22, 23, 24, 25, 26, 27, 28, 29, 30, 31, 32] (by decide +kernel) (by decide +kernel)) (goodIn_sub (fun _ h => List.mem_cons_of_mem _ (List.mem_append_left _ (List.mem_append_right _ h))) (by decide +kernel))) (goodIn_sub (fun _ h => List.mem_cons_of_mem _ (List.mem_append_right _ h)) (by decide +kernel))
set_option maxRecDepth 20000 in
theorem gL_rate_X9_rate : GoodIn wsL_rate (wsV RL 52 RX9 yX9_rate wsX9_rate) := goodIn_app (goodIn_of _ (by decide +kernel)) ggL_rate_X9_rate
theorem dL_rate_0 : decode cL_rate 0 = .ok (.aload_n 0, 1) := by decide +kernel
theorem dL_rate_1 : decode cL_rate 1 = .ok (.iload_n 1, 1) := by decide +kernel
theorem dL_rate_2 : decode cL_rate 2 = .ok (.iload_n 2, 1) := by decide +kernel
theorem dL_rate_3 : decode cL_rate 3 = .ok (.invokevirtual 52, 3) := by decide +kernel
theorem dL_rate_6 : decode cL_rate 6 = .ok (.goto 9, 3) := by decide +kernel
theorem dL_rate_9 : decode cL_rate 9 = .ok (.astore_n 3, 1) := by decide +kernel
theorem dL_rate_10 : decode cL_rate 10 = .ok (.iconst 1, 1) := by decide +kernel
theorem dL_rate_11 : decode cL_rate 11 = .ok (.ireturn, 1) := by decide +kernel
theorem dL_rate_12 : decode cL_rate 12 = .ok (.astore_n 3, 1) := by decide +kernel
theorem dL_rate_13 : decode cL_rate 13 = .ok (.iconst 2, 1) := by decide +kernel
theorem dL_rate_14 : decode cL_rate 14 = .ok (.ireturn, 1) := by decide +kernel
theorem dL_rate_15 : decode cL_rate 15 = .ok (.iconst 0, 1) := by decide +kernel
theorem dL_rate_16 : decode cL_rate 16 = .ok (.ireturn, 1) := by decide +kernel
set_option maxRecDepth 20000 in
theorem ggL_check_X9_check : GoodIn wsL_check wsX9_check := goodIn_ca (goodIn_ca (goodIn_r _ [7, 8, 9, 10, 11, 12, 13, 14, 15, 16, 17, 18, 19, 20, 21, 22, 23, 24, 25, 26, 27, 28, 29, 30, 31, 32, 33, 34, 35, 36, 37, 38, 39, 40, 41, 42, 43, 44, 45, 46, 47, 48, 49, 50, 51, 52, 53, 54, 55, 56, 57, 58, 59, 60, 61, 62, 63, 64, 65, 66, 67, 68, 69, 70, 71, 72, 73, 74, 75, 76, 77, 78, 79, 80, 81, 82, 83, 84, 85, 86, 87, 88, 89, 90, 91, 92, 93, 94, 95, 96, 6, 97, 98, 99, 100, 101, 102, 103, 104, 105, 106, 107, 108, 109, 110, 111, 112, 113, 114, 115, 116, 117, 118, 119, 120, 121, 122, 123, 124, 125, 126, 127, 128, 129, 130, 131, 132, 133, 134, 135, 136, 137, 138, 139, 140, 141] (by decide +kernel) (by decide +kernel)) (goodIn_sub (fun _ h => List.mem_cons_of_mem _ (List.mem_append_left _ (List.mem_append_right _ h))) (by decide +kernel))) (goodIn_sub (fun _ h => List.mem_cons_of_mem _ (List.mem_append_right _ h)) (by decide +kernel))
set_option maxRecDepth 20000 in
theorem gL_check_X9_check : GoodIn wsL_check (wsV RL 56 RX9 yX9_check wsX9_check) := goodIn_app (goodIn_of _ (by decide +kernel)) ggL_check_X9_check
theorem dL_check_0 : decode cL_check 0 = .ok (.aload_n 2, 1) := by decide +kernel
theorem dL_check_1 : decode cL_check 1 = .ok (.iconst 0, 1) := by decide +kernel
theorem dL_check_2 : decode cL_check 2 = .ok (.aload_n 0, 1) := by decide +kernel
theorem dL_check_3 : decode cL_check 3 = .ok (.iload_n 1, 1) := by decide +kernel
theorem dL_check_4 : decode cL_check 4 = .ok (.invokevirtual 56, 3) := by decide +kernel
theorem dL_check_7 : decode cL_check 7 = .ok (.i2l, 1) := by decide +kernel
theorem dL_check_8 : decode cL_check 8 = .ok (.lastore, 1) := by decide +kernel
theorem dL_check_9 : decode cL_check 9 = .ok (.goto 9, 3) := by decide +kernel
theorem dL_check_12 : decode cL_check 12 = .ok (.astore_n 3, 1) := by decide +kernel
theorem dL_check_13 : decode cL_check 13 = .ok (.iconst 1, 1) := by decide +kernel
theorem dL_check_14 : decode cL_check 14 = .ok (.ireturn, 1) := by decide +kernel
theorem dL_check_15 : decode cL_check 15 = .ok (.astore_n 3, 1) := by decide +kernel
theorem dL_check_16 : decode cL_check 16 = .ok (.iconst 2, 1) := by decide +kernel
theorem dL_check_17 : decode cL_check 17 = .ok (.ireturn, 1) := by decide +kernel
theorem dL_check_18 : decode cL_check 18 = .ok (.iconst 0, 1) := by decide +kernel
theorem dL_check_19 : decode cL_check 19 = .ok (.ireturn, 1) := by decide +kernel
set_option maxRecDepth 20000 in
theorem ggL_notes_X9_notes : GoodIn wsL_notes wsX9_notes := goodIn_ca (goodIn_r _ [6, 7, 8, 9, 5, 10, 11, 12, 13, 14, 15, 16, 17, 18, 19, 20, 21, 22, 23, 24, 25, 26] (by decide +kernel) (by decide +kernel)) (goodIn_sub (fun _ h => List.mem_cons_of_mem _ (List.mem_append_right _ h)) (by decide +kernel))
set_option maxRecDepth 20000 in
theorem gL_notes_X9_notes : GoodIn wsL_notes (wsV RL 59 RX9 yX9_notes wsX9_notes) := goodIn_app (goodIn_of _ (by decide +kernel)) ggL_notes_X9_notes
theorem dL_notes_0 : decode cL_notes 0 = .ok (.aload_n 3, 1) := by decide +kernel
theorem dL_notes_1 : decode cL_notes 1 = .ok (.iconst 0, 1) := by decide +kernel
theorem dL_notes_2 : decode cL_notes 2 = .ok (.aload_n 0, 1) := by decide +kernel
theorem dL_notes_3 : decode cL_notes 3 = .ok (.iload_n 1, 1) := by decide +kernel
theorem dL_notes_4 : decode cL_notes 4 = .ok (.iload_n 2, 1) := by decide +kernel
theorem dL_notes_5 : decode cL_notes 5 = .ok (.invokevirtual 59, 3) := by decide +kernel
theorem dL_notes_8 : decode cL_notes 8 = .ok (.i2l, 1) := by decide +kernel
theorem dL_notes_9 : decode cL_notes 9 = .ok (.lastore, 1) := by decide +kernel
theorem dL_notes_10 : decode cL_notes 10 = .ok (.goto 7, 3) := by decide +kernel
theorem dL_notes_13 : decode cL_notes 13 = .ok (.astore 4, 2) := by decide +kernel
theorem dL_notes_15 : decode cL_notes 15 = .ok (.iconst 1, 1) := by decide +kernel
theorem dL_notes_16 : decode cL_notes 16 = .ok (.ireturn, 1) := by decide +kernel
theorem dL_notes_17 : decode cL_notes 17 = .ok (.iconst 0, 1) := by decide +kernel
theorem dL_notes_18 : decode cL_notes 18 = .ok (.ireturn, 1) := by decide +kernel
set_option maxRecDepth 20000 in
theorem ggL_sherd_X9_sherd : GoodIn wsL_sherd wsX9_sherd := goodIn_ca (goodIn_ca (goodIn_ca (goodIn_r _ [8, 9, 10, 11, 7, 12, 13, 14, 15, 16, 17, 18, 19, 20, 21, 22, 23, 24, 25, 26, 27, 28, 29, 30, 31, 32, 33, 34, 35, 36, 37, 38, 39, 40, 41, 42, 43, 44, 45, 46, 47, 48, 49, 50, 51, 52, 53] (by decide +kernel) (by decide +kernel)) (goodIn_sub (fun _ h => List.mem_cons_of_mem _ (List.mem_append_left _ (List.mem_append_left _ (List.mem_append_right _ h)))) (by decide +kernel))) (goodIn_sub (fun _ h => List.mem_cons_of_mem _ (List.mem_append_left _ (List.mem_append_right _ h))) (by decide +kernel))) (goodIn_sub (fun _ h => List.mem_cons_of_mem _ (List.mem_append_right _ h)) (by decide +kernel))
set_option maxRecDepth 20000 in
theorem gL_sherd_X9_sherd : GoodIn wsL_sherd (wsV RL 63 RX9 yX9_sherd wsX9_sherd) := goodIn_app (goodIn_of _ (by decide +kernel)) ggL_sherd_X9_sherd
theorem dL_sherd_0 : decode cL_sherd 0 = .ok (.aload_n 3, 1) := by decide +kernel
theorem dL_sherd_1 : decode cL_sherd 1 = .ok (.iconst 0, 1) := by decide +kernel
theorem dL_sherd_2 : decode cL_sherd 2 = .ok (.aload_n 0, 1) := by decide +kernel
theorem dL_sherd_3 : decode cL_sherd 3 = .ok (.iload_n 1, 1) := by decide +kernel
theorem dL_sherd_4 : decode cL_sherd 4 = .ok (.iload_n 2, 1) := by decide +kernel
theorem dL_sherd_5 : decode cL_sherd 5 = .ok (.invokevirtual 63, 3) := by decide +kernel
theorem dL_sherd_8 : decode cL_sherd 8 = .ok (.i2l, 1) := by decide +kernel
theorem dL_sherd_9 : decode cL_sherd 9 = .ok (.lastore, 1) := by decide +kernel
theorem dL_sherd_10 : decode cL_sherd 10 = .ok (.goto 15, 3) := by decide +kernel
theorem dL_sherd_13 : decode cL_sherd 13 = .ok (.astore 4, 2) := by decide +kernel
theorem dL_sherd_15 : decode cL_sherd 15 = .ok (.iconst 1, 1) := by decide +kernel
theorem dL_sherd_16 : decode cL_sherd 16 = .ok (.ireturn, 1) := by decide +kernel
theorem dL_sherd_17 : decode cL_sherd 17 = .ok (.astore 4, 2) := by decide +kernel
theorem dL_sherd_19 : decode cL_sherd 19 = .ok (.iconst 2, 1) := by decide +kernel
theorem dL_sherd_20 : decode cL_sherd 20 = .ok (.ireturn, 1) := by decide +kernel
theorem dL_sherd_21 : decode cL_sherd 21 = .ok (.astore 4, 2) := by decide +kernel
theorem dL_sherd_23 : decode cL_sherd 23 = .ok (.iconst 3, 1) := by decide +kernel
theorem dL_sherd_24 : decode cL_sherd 24 = .ok (.ireturn, 1) := by decide +kernel
theorem dL_sherd_25 : decode cL_sherd 25 = .ok (.iconst 0, 1) := by decide +kernel
theorem dL_sherd_26 : decode cL_sherd 26 = .ok (.ireturn, 1) := by decide +kernel
set_option maxRecDepth 20000 in
theorem ggL_join_X9_join : GoodIn wsL_join wsX9_join := goodIn_ca (goodIn_r _ [6, 7, 8, 9, 5, 10, 11, 12, 13, 14, 15, 16, 17, 18, 19, 20, 21, 22, 23, 24, 25, 26, 27, 28, 29, 30, 31, 32, 33, 34, 35, 36, 37, 38, 39, 40, 41, 42, 43, 44, 45, 46, 47, 48, 49] (by decide +kernel) (by decide +kernel)) (goodIn_sub (fun _ h => List.mem_cons_of_mem _ (List.mem_append_right _ h)) (by decide +kernel))
set_option maxRecDepth 20000 in
theorem gL_join_X9_join : GoodIn wsL_join (wsV RL 66 RX9 yX9_join wsX9_join) := goodIn_app (goodIn_of _ (by decide +kernel)) ggL_join_X9_join
theorem dL_join_0 : decode cL_join 0 = .ok (.aload_n 3, 1) := by decide +kernel
theorem dL_join_1 : decode cL_join 1 = .ok (.iconst 0, 1) := by decide +kernel
theorem dL_join_2 : decode cL_join 2 = .ok (.aload_n 0, 1) := by decide +kernel
theorem dL_join_3 : decode cL_join 3 = .ok (.iload_n 1, 1) := by decide +kernel
theorem dL_join_4 : decode cL_join 4 = .ok (.iload_n 2, 1) := by decide +kernel
theorem dL_join_5 : decode cL_join 5 = .ok (.invokevirtual 66, 3) := by decide +kernel
theorem dL_join_8 : decode cL_join 8 = .ok (.ifCond .eq 7, 3) := by decide +kernel
theorem dL_join_11 : decode cL_join 11 = .ok (.lconst 1, 1) := by decide +kernel
theorem dL_join_12 : decode cL_join 12 = .ok (.goto 4, 3) := by decide +kernel
theorem dL_join_15 : decode cL_join 15 = .ok (.lconst 0, 1) := by decide +kernel
theorem dL_join_16 : decode cL_join 16 = .ok (.lastore, 1) := by decide +kernel
theorem dL_join_17 : decode cL_join 17 = .ok (.goto 7, 3) := by decide +kernel
theorem dL_join_20 : decode cL_join 20 = .ok (.astore 4, 2) := by decide +kernel
theorem dL_join_22 : decode cL_join 22 = .ok (.iconst 1, 1) := by decide +kernel
theorem dL_join_23 : decode cL_join 23 = .ok (.ireturn, 1) := by decide +kernel
theorem dL_join_24 : decode cL_join 24 = .ok (.iconst 0, 1) := by decide +kernel
theorem dL_join_25 : decode cL_join 25 = .ok (.ireturn, 1) := by decide +kernel
set_option maxRecDepth 20000 in
theorem ggL_vessels_X9_vessels : GoodIn wsL_vessels wsX9_vessels := goodIn_ca (goodIn_r _ [6, 7, 8, 9, 5, 10, 11, 12, 13, 14, 15, 16, 17, 18, 19, 20, 21, 22, 23, 24, 25, 26, 27, 28, 29, 30, 31, 32, 33, 34, 35, 36, 37, 38, 39, 40, 41, 42, 43] (by decide +kernel) (by decide +kernel)) (goodIn_sub (fun _ h => List.mem_cons_of_mem _ (List.mem_append_right _ h)) (by decide +kernel))
set_option maxRecDepth 20000 in
theorem gL_vessels_X9_vessels : GoodIn wsL_vessels (wsV RL 70 RX9 yX9_vessels wsX9_vessels) := goodIn_app (goodIn_of _ (by decide +kernel)) ggL_vessels_X9_vessels
theorem dL_vessels_0 : decode cL_vessels 0 = .ok (.aload_n 2, 1) := by decide +kernel
theorem dL_vessels_1 : decode cL_vessels 1 = .ok (.iconst 0, 1) := by decide +kernel
theorem dL_vessels_2 : decode cL_vessels 2 = .ok (.aload_n 0, 1) := by decide +kernel
theorem dL_vessels_3 : decode cL_vessels 3 = .ok (.iload_n 1, 1) := by decide +kernel
theorem dL_vessels_4 : decode cL_vessels 4 = .ok (.invokevirtual 70, 3) := by decide +kernel
theorem dL_vessels_7 : decode cL_vessels 7 = .ok (.i2l, 1) := by decide +kernel
theorem dL_vessels_8 : decode cL_vessels 8 = .ok (.lastore, 1) := by decide +kernel
theorem dL_vessels_9 : decode cL_vessels 9 = .ok (.goto 6, 3) := by decide +kernel
theorem dL_vessels_12 : decode cL_vessels 12 = .ok (.astore_n 3, 1) := by decide +kernel
theorem dL_vessels_13 : decode cL_vessels 13 = .ok (.iconst 1, 1) := by decide +kernel
theorem dL_vessels_14 : decode cL_vessels 14 = .ok (.ireturn, 1) := by decide +kernel
theorem dL_vessels_15 : decode cL_vessels 15 = .ok (.iconst 0, 1) := by decide +kernel
theorem dL_vessels_16 : decode cL_vessels 16 = .ok (.ireturn, 1) := by decide +kernel
set_option maxRecDepth 20000 in
theorem ggL_vessel_X9_vessel : GoodIn wsL_vessel wsX9_vessel := goodIn_ca (goodIn_ca (goodIn_r _ [7, 8, 9, 10, 11, 12, 6, 13, 14, 15, 16, 17, 18, 19, 20, 21, 22, 23, 24, 25, 26, 27, 28, 29, 30, 31] (by decide +kernel) (by decide +kernel)) (goodIn_sub (fun _ h => List.mem_cons_of_mem _ (List.mem_append_left _ (List.mem_append_right _ h))) (by decide +kernel))) (goodIn_sub (fun _ h => List.mem_cons_of_mem _ (List.mem_append_right _ h)) (by decide +kernel))
set_option maxRecDepth 20000 in
theorem gL_vessel_X9_vessel : GoodIn wsL_vessel (wsV RL 73 RX9 yX9_vessel wsX9_vessel) := goodIn_app (goodIn_of _ (by decide +kernel)) ggL_vessel_X9_vessel
theorem dL_vessel_0 : decode cL_vessel 0 = .ok (.aload_n 3, 1) := by decide +kernel
theorem dL_vessel_1 : decode cL_vessel 1 = .ok (.iconst 0, 1) := by decide +kernel
theorem dL_vessel_2 : decode cL_vessel 2 = .ok (.aload_n 0, 1) := by decide +kernel
theorem dL_vessel_3 : decode cL_vessel 3 = .ok (.iload_n 1, 1) := by decide +kernel
theorem dL_vessel_4 : decode cL_vessel 4 = .ok (.iload_n 2, 1) := by decide +kernel
theorem dL_vessel_5 : decode cL_vessel 5 = .ok (.invokevirtual 73, 3) := by decide +kernel
theorem dL_vessel_8 : decode cL_vessel 8 = .ok (.i2l, 1) := by decide +kernel
theorem dL_vessel_9 : decode cL_vessel 9 = .ok (.lastore, 1) := by decide +kernel
theorem dL_vessel_10 : decode cL_vessel 10 = .ok (.goto 11, 3) := by decide +kernel
theorem dL_vessel_13 : decode cL_vessel 13 = .ok (.astore 4, 2) := by decide +kernel
theorem dL_vessel_15 : decode cL_vessel 15 = .ok (.iconst 1, 1) := by decide +kernel
theorem dL_vessel_16 : decode cL_vessel 16 = .ok (.ireturn, 1) := by decide +kernel
theorem dL_vessel_17 : decode cL_vessel 17 = .ok (.astore 4, 2) := by decide +kernel
theorem dL_vessel_19 : decode cL_vessel 19 = .ok (.iconst 2, 1) := by decide +kernel
theorem dL_vessel_20 : decode cL_vessel 20 = .ok (.ireturn, 1) := by decide +kernel
theorem dL_vessel_21 : decode cL_vessel 21 = .ok (.iconst 0, 1) := by decide +kernel
theorem dL_vessel_22 : decode cL_vessel 22 = .ok (.ireturn, 1) := by decide +kernel
set_option maxRecDepth 20000 in
theorem ggL_tell_X9_tell : GoodIn wsL_tell wsX9_tell := goodIn_ca (goodIn_ca (goodIn_ca (goodIn_r _ [8, 9, 10, 11, 12, 13, 14, 7, 15, 16, 17, 18, 19, 20, 21, 22, 23, 24, 25, 26, 27, 28, 29, 30, 31, 32, 33, 34, 35, 36, 37, 38, 39, 40, 41, 42, 43, 44, 45, 46, 47, 48, 49, 50, 51, 52, 53, 54, 55, 56, 57] (by decide +kernel) (by decide +kernel)) (goodIn_sub (fun _ h => List.mem_cons_of_mem _ (List.mem_append_left _ (List.mem_append_left _ (List.mem_append_right _ h)))) (by decide +kernel))) (goodIn_sub (fun _ h => List.mem_cons_of_mem _ (List.mem_append_left _ (List.mem_append_right _ h))) (by decide +kernel))) (goodIn_sub (fun _ h => List.mem_cons_of_mem _ (List.mem_append_right _ h)) (by decide +kernel))
set_option maxRecDepth 20000 in
theorem gL_tell_X9_tell : GoodIn wsL_tell (wsV RL 76 RX9 yX9_tell wsX9_tell) := goodIn_app (goodIn_of _ (by decide +kernel)) ggL_tell_X9_tell
theorem dL_tell_0 : decode cL_tell 0 = .ok (.aload 4, 2) := by decide +kernel
theorem dL_tell_2 : decode cL_tell 2 = .ok (.iconst 0, 1) := by decide +kernel
theorem dL_tell_3 : decode cL_tell 3 = .ok (.aload_n 0, 1) := by decide +kernel
theorem dL_tell_4 : decode cL_tell 4 = .ok (.iload_n 1, 1) := by decide +kernel
theorem dL_tell_5 : decode cL_tell 5 = .ok (.iload_n 2, 1) := by decide +kernel
theorem dL_tell_6 : decode cL_tell 6 = .ok (.iload_n 3, 1) := by decide +kernel
theorem dL_tell_7 : decode cL_tell 7 = .ok (.invokevirtual 76, 3) := by decide +kernel
theorem dL_tell_10 : decode cL_tell 10 = .ok (.i2l, 1) := by decide +kernel
theorem dL_tell_11 : decode cL_tell 11 = .ok (.lastore, 1) := by decide +kernel
theorem dL_tell_12 : decode cL_tell 12 = .ok (.goto 15, 3) := by decide +kernel
theorem dL_tell_15 : decode cL_tell 15 = .ok (.astore 5, 2) := by decide +kernel
theorem dL_tell_17 : decode cL_tell 17 = .ok (.iconst 1, 1) := by decide +kernel
theorem dL_tell_18 : decode cL_tell 18 = .ok (.ireturn, 1) := by decide +kernel
theorem dL_tell_19 : decode cL_tell 19 = .ok (.astore 5, 2) := by decide +kernel
theorem dL_tell_21 : decode cL_tell 21 = .ok (.iconst 2, 1) := by decide +kernel
theorem dL_tell_22 : decode cL_tell 22 = .ok (.ireturn, 1) := by decide +kernel
theorem dL_tell_23 : decode cL_tell 23 = .ok (.astore 5, 2) := by decide +kernel
theorem dL_tell_25 : decode cL_tell 25 = .ok (.iconst 3, 1) := by decide +kernel
theorem dL_tell_26 : decode cL_tell 26 = .ok (.ireturn, 1) := by decide +kernel
theorem dL_tell_27 : decode cL_tell 27 = .ok (.iconst 0, 1) := by decide +kernel
theorem dL_tell_28 : decode cL_tell 28 = .ok (.ireturn, 1) := by decide +kernel
set_option maxRecDepth 20000 in
theorem ggL_bound_X9_bound : GoodIn wsL_bound wsX9_bound := goodIn_ca (goodIn_ca (goodIn_ca (goodIn_r _ [8, 9, 10, 11, 12, 7, 13, 14, 15, 16, 17, 18, 19, 20, 21, 22, 23, 24, 25, 26, 27, 28, 29, 30, 31, 32, 33, 34, 35, 36, 37, 38, 39, 40, 41, 42, 43, 44, 45, 46, 47, 48, 49, 50, 51, 52, 53, 54, 55, 56, 57] (by decide +kernel) (by decide +kernel)) (goodIn_sub (fun _ h => List.mem_cons_of_mem _ (List.mem_append_left _ (List.mem_append_left _ (List.mem_append_right _ h)))) (by decide +kernel))) (goodIn_sub (fun _ h => List.mem_cons_of_mem _ (List.mem_append_left _ (List.mem_append_right _ h))) (by decide +kernel))) (goodIn_sub (fun _ h => List.mem_cons_of_mem _ (List.mem_append_right _ h)) (by decide +kernel))
set_option maxRecDepth 20000 in
theorem gL_bound_X9_bound : GoodIn wsL_bound (wsV RL 79 RX9 yX9_bound wsX9_bound) := goodIn_app (goodIn_of _ (by decide +kernel)) ggL_bound_X9_bound
theorem dL_bound_0 : decode cL_bound 0 = .ok (.aload 4, 2) := by decide +kernel
theorem dL_bound_2 : decode cL_bound 2 = .ok (.iconst 0, 1) := by decide +kernel
theorem dL_bound_3 : decode cL_bound 3 = .ok (.aload_n 0, 1) := by decide +kernel
theorem dL_bound_4 : decode cL_bound 4 = .ok (.iload_n 1, 1) := by decide +kernel
theorem dL_bound_5 : decode cL_bound 5 = .ok (.iload_n 2, 1) := by decide +kernel
theorem dL_bound_6 : decode cL_bound 6 = .ok (.iload_n 3, 1) := by decide +kernel
theorem dL_bound_7 : decode cL_bound 7 = .ok (.invokevirtual 79, 3) := by decide +kernel
theorem dL_bound_10 : decode cL_bound 10 = .ok (.i2l, 1) := by decide +kernel
theorem dL_bound_11 : decode cL_bound 11 = .ok (.lastore, 1) := by decide +kernel
theorem dL_bound_12 : decode cL_bound 12 = .ok (.goto 15, 3) := by decide +kernel
theorem dL_bound_15 : decode cL_bound 15 = .ok (.astore 5, 2) := by decide +kernel
theorem dL_bound_17 : decode cL_bound 17 = .ok (.iconst 1, 1) := by decide +kernel
theorem dL_bound_18 : decode cL_bound 18 = .ok (.ireturn, 1) := by decide +kernel
theorem dL_bound_19 : decode cL_bound 19 = .ok (.astore 5, 2) := by decide +kernel
theorem dL_bound_21 : decode cL_bound 21 = .ok (.iconst 2, 1) := by decide +kernel
theorem dL_bound_22 : decode cL_bound 22 = .ok (.ireturn, 1) := by decide +kernel
theorem dL_bound_23 : decode cL_bound 23 = .ok (.astore 5, 2) := by decide +kernel
theorem dL_bound_25 : decode cL_bound 25 = .ok (.iconst 3, 1) := by decide +kernel
theorem dL_bound_26 : decode cL_bound 26 = .ok (.ireturn, 1) := by decide +kernel
theorem dL_bound_27 : decode cL_bound 27 = .ok (.iconst 0, 1) := by decide +kernel
theorem dL_bound_28 : decode cL_bound 28 = .ok (.ireturn, 1) := by decide +kernel
set_option maxRecDepth 20000 in
theorem ggL_undo_X9_undo : GoodIn wsL_undo wsX9_undo := goodIn_ca (goodIn_r _ [6, 7, 8, 9, 10, 5, 11, 12, 13, 14, 15, 16, 17, 18, 19, 20, 21, 22, 23, 24, 25, 26, 27, 28, 29, 30, 31, 32, 33, 34, 35, 36, 37, 38, 39, 40] (by decide +kernel) (by decide +kernel)) (goodIn_sub (fun _ h => List.mem_cons_of_mem _ (List.mem_append_right _ h)) (by decide +kernel))
set_option maxRecDepth 20000 in
theorem gL_undo_X9_undo : GoodIn wsL_undo (wsV RL 83 RX9 yX9_undo wsX9_undo) := goodIn_app (goodIn_of _ (by decide +kernel)) ggL_undo_X9_undo
theorem dL_undo_0 : decode cL_undo 0 = .ok (.aload_n 2, 1) := by decide +kernel
theorem dL_undo_1 : decode cL_undo 1 = .ok (.iconst 0, 1) := by decide +kernel
theorem dL_undo_2 : decode cL_undo 2 = .ok (.aload_n 0, 1) := by decide +kernel
theorem dL_undo_3 : decode cL_undo 3 = .ok (.iload_n 1, 1) := by decide +kernel
theorem dL_undo_4 : decode cL_undo 4 = .ok (.invokevirtual 83, 3) := by decide +kernel
theorem dL_undo_7 : decode cL_undo 7 = .ok (.ifCond .eq 7, 3) := by decide +kernel
theorem dL_undo_10 : decode cL_undo 10 = .ok (.lconst 1, 1) := by decide +kernel
theorem dL_undo_11 : decode cL_undo 11 = .ok (.goto 4, 3) := by decide +kernel
theorem dL_undo_14 : decode cL_undo 14 = .ok (.lconst 0, 1) := by decide +kernel
theorem dL_undo_15 : decode cL_undo 15 = .ok (.lastore, 1) := by decide +kernel
theorem dL_undo_16 : decode cL_undo 16 = .ok (.goto 6, 3) := by decide +kernel
theorem dL_undo_19 : decode cL_undo 19 = .ok (.astore_n 3, 1) := by decide +kernel
theorem dL_undo_20 : decode cL_undo 20 = .ok (.iconst 1, 1) := by decide +kernel
theorem dL_undo_21 : decode cL_undo 21 = .ok (.ireturn, 1) := by decide +kernel
theorem dL_undo_22 : decode cL_undo 22 = .ok (.iconst 0, 1) := by decide +kernel
theorem dL_undo_23 : decode cL_undo 23 = .ok (.ireturn, 1) := by decide +kernel
set_option maxRecDepth 20000 in
theorem ggL_days_X9_days : GoodIn wsL_days wsX9_days := goodIn_ca (goodIn_r _ [6, 7, 8, 9, 5, 10, 11, 12, 13, 14, 15, 16, 17, 18, 19, 20, 21, 22, 23] (by decide +kernel) (by decide +kernel)) (goodIn_sub (fun _ h => List.mem_cons_of_mem _ (List.mem_append_right _ h)) (by decide +kernel))
set_option maxRecDepth 20000 in
theorem gL_days_X9_days : GoodIn wsL_days (wsV RL 87 RX9 yX9_days wsX9_days) := goodIn_app (goodIn_of _ (by decide +kernel)) ggL_days_X9_days
theorem dL_days_0 : decode cL_days 0 = .ok (.aload_n 2, 1) := by decide +kernel
theorem dL_days_1 : decode cL_days 1 = .ok (.iconst 0, 1) := by decide +kernel
theorem dL_days_2 : decode cL_days 2 = .ok (.aload_n 0, 1) := by decide +kernel
theorem dL_days_3 : decode cL_days 3 = .ok (.iload_n 1, 1) := by decide +kernel
theorem dL_days_4 : decode cL_days 4 = .ok (.invokevirtual 87, 3) := by decide +kernel
theorem dL_days_7 : decode cL_days 7 = .ok (.i2l, 1) := by decide +kernel
theorem dL_days_8 : decode cL_days 8 = .ok (.lastore, 1) := by decide +kernel
theorem dL_days_9 : decode cL_days 9 = .ok (.goto 6, 3) := by decide +kernel
theorem dL_days_12 : decode cL_days 12 = .ok (.astore_n 3, 1) := by decide +kernel
theorem dL_days_13 : decode cL_days 13 = .ok (.iconst 1, 1) := by decide +kernel
theorem dL_days_14 : decode cL_days 14 = .ok (.ireturn, 1) := by decide +kernel
theorem dL_days_15 : decode cL_days 15 = .ok (.iconst 0, 1) := by decide +kernel
theorem dL_days_16 : decode cL_days 16 = .ok (.ireturn, 1) := by decide +kernel
set_option maxRecDepth 20000 in
theorem ggL_span_X9_span : GoodIn wsL_span wsX9_span := goodIn_ca (goodIn_ca (goodIn_r _ [7, 8, 9, 10, 11, 12, 13, 6, 14, 15, 16, 17, 18, 19, 20, 21, 22, 23, 24, 25, 26, 27, 28, 29, 30, 31, 32, 33, 34, 35, 36, 37, 38, 39, 40, 41, 42, 43, 44, 45, 46, 47, 48, 49, 50, 51, 52, 53, 54, 55, 56, 57, 58, 59, 60, 61, 62, 63, 64, 65, 66, 67, 68, 69, 70, 71] (by decide +kernel) (by decide +kernel)) (goodIn_sub (fun _ h => List.mem_cons_of_mem _ (List.mem_append_left _ (List.mem_append_right _ h))) (by decide +kernel))) (goodIn_sub (fun _ h => List.mem_cons_of_mem _ (List.mem_append_right _ h)) (by decide +kernel))
set_option maxRecDepth 20000 in
theorem gL_span_X9_span : GoodIn wsL_span (wsV RL 90 RX9 yX9_span wsX9_span) := goodIn_app (goodIn_of _ (by decide +kernel)) ggL_span_X9_span
theorem dL_span_0 : decode cL_span 0 = .ok (.aload 4, 2) := by decide +kernel
theorem dL_span_2 : decode cL_span 2 = .ok (.iconst 0, 1) := by decide +kernel
theorem dL_span_3 : decode cL_span 3 = .ok (.aload_n 0, 1) := by decide +kernel
theorem dL_span_4 : decode cL_span 4 = .ok (.iload_n 1, 1) := by decide +kernel
theorem dL_span_5 : decode cL_span 5 = .ok (.iload_n 2, 1) := by decide +kernel
theorem dL_span_6 : decode cL_span 6 = .ok (.iload_n 3, 1) := by decide +kernel
theorem dL_span_7 : decode cL_span 7 = .ok (.invokevirtual 90, 3) := by decide +kernel
theorem dL_span_10 : decode cL_span 10 = .ok (.i2l, 1) := by decide +kernel
theorem dL_span_11 : decode cL_span 11 = .ok (.lastore, 1) := by decide +kernel
theorem dL_span_12 : decode cL_span 12 = .ok (.goto 11, 3) := by decide +kernel
theorem dL_span_15 : decode cL_span 15 = .ok (.astore 5, 2) := by decide +kernel
theorem dL_span_17 : decode cL_span 17 = .ok (.iconst 1, 1) := by decide +kernel
theorem dL_span_18 : decode cL_span 18 = .ok (.ireturn, 1) := by decide +kernel
theorem dL_span_19 : decode cL_span 19 = .ok (.astore 5, 2) := by decide +kernel
theorem dL_span_21 : decode cL_span 21 = .ok (.iconst 2, 1) := by decide +kernel
theorem dL_span_22 : decode cL_span 22 = .ok (.ireturn, 1) := by decide +kernel
theorem dL_span_23 : decode cL_span 23 = .ok (.iconst 0, 1) := by decide +kernel
theorem dL_span_24 : decode cL_span 24 = .ok (.ireturn, 1) := by decide +kernel
