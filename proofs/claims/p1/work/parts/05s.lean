theorem inlX0 : ∀ w ∈ wsX00, w ∈ wsL_law := fun _ h => List.mem_append_left _ (List.mem_append_left _ (List.mem_append_left _ (List.mem_append_left _ (List.mem_append_left _ (List.mem_append_left _ (List.mem_append_left _ (List.mem_append_left _ (List.mem_append_left _ (List.mem_append_right _ h)))))))))
theorem inlX1 : ∀ w ∈ wsX10, w ∈ wsL_law := fun _ h => List.mem_append_left _ (List.mem_append_left _ (List.mem_append_left _ (List.mem_append_left _ (List.mem_append_left _ (List.mem_append_left _ (List.mem_append_left _ (List.mem_append_left _ (List.mem_append_left _ (List.mem_append_left _ (List.mem_append_right _ h))))))))))
theorem inlX2 : ∀ w ∈ wsX20, w ∈ wsL_law := fun _ h => List.mem_append_left _ (List.mem_append_left _ (List.mem_append_left _ (List.mem_append_left _ (List.mem_append_left _ (List.mem_append_left _ (List.mem_append_left _ (List.mem_append_left _ (List.mem_append_right _ h))))))))
theorem inlX3 : ∀ w ∈ wsX30, w ∈ wsL_law := fun _ h => List.mem_append_left _ (List.mem_append_left _ (List.mem_append_left _ (List.mem_append_left _ (List.mem_append_left _ (List.mem_append_left _ (List.mem_append_left _ (List.mem_append_left _ (List.mem_append_left _ (List.mem_append_left _ (List.mem_append_left _ (List.mem_append_left _ (List.mem_append_left _ (List.mem_append_right _ h)))))))))))))
theorem inlX4 : ∀ w ∈ wsX40, w ∈ wsL_law := fun _ h => List.mem_append_left _ (List.mem_append_left _ (List.mem_append_left _ (List.mem_append_left _ (List.mem_append_left _ (List.mem_append_left _ (List.mem_append_left _ (List.mem_append_left _ (List.mem_append_left _ (List.mem_append_left _ (List.mem_append_left _ (List.mem_append_right _ h)))))))))))
theorem inlX5 : ∀ w ∈ wsX50, w ∈ wsL_law := fun _ h => List.mem_append_left _ (List.mem_append_left _ (List.mem_append_left _ (List.mem_append_left _ (List.mem_append_left _ (List.mem_append_left _ (List.mem_append_left _ (List.mem_append_left _ (List.mem_append_left _ (List.mem_append_left _ (List.mem_append_left _ (List.mem_append_left _ (List.mem_append_right _ h))))))))))))
theorem inlJ6 : ∀ w ∈ wsJ60, w ∈ wsL_law := fun _ h => List.mem_append_left _ (List.mem_append_left _ (List.mem_append_left _ (List.mem_append_left _ (List.mem_append_right _ h))))
theorem inlJ0 : ∀ w ∈ wsJ00, w ∈ wsL_law := fun _ h => List.mem_append_left _ (List.mem_append_left _ (List.mem_append_left _ (List.mem_append_left _ (List.mem_append_left _ (List.mem_append_right _ h)))))
theorem inlJ4 : ∀ w ∈ wsJ40, w ∈ wsL_law := fun _ h => List.mem_append_left _ (List.mem_append_left _ (List.mem_append_left _ (List.mem_append_left _ (List.mem_append_left _ (List.mem_append_left _ (List.mem_append_right _ h))))))
theorem inlJx4a65c : ∀ w ∈ wsJx4a65c0, w ∈ wsL_law := fun _ h => List.mem_append_left _ (List.mem_append_left _ (List.mem_append_left _ (List.mem_append_left _ (List.mem_append_left _ (List.mem_append_left _ (List.mem_append_left _ (List.mem_append_right _ h)))))))
set_option maxRecDepth 20000 in
theorem gL_law_X3_init : GoodIn wsL_law (wsX3_init) := ggL_law_X3_init
set_option maxRecDepth 20000 in
theorem gL_law_X5_init : GoodIn wsL_law (wsX5_init) := ggL_law_X5_init
set_option maxRecDepth 20000 in
theorem gL_law_X4_init_n121 : GoodIn wsL_law (wsX4_init) := ggL_law_X4_init
set_option maxRecDepth 20000 in
theorem gL_law_L_type : GoodIn wsL_law (va_wsS RL 122 yL_type wsL_type) := goodIn_app (goodIn_of _ (by decide +kernel)) ggL_law_L_type
set_option maxRecDepth 20000 in
theorem gL_law_X5_type : GoodIn wsL_law (wsV RL 127 RX5 yX5_type wsX5_type) := goodIn_app (goodIn_of _ (by decide +kernel)) ggL_law_X5_type
set_option maxRecDepth 20000 in
theorem gL_law_X5_thrown : GoodIn wsL_law (wsV RL 128 RX5 yX5_thrown wsX5_thrown) := goodIn_app (goodIn_of _ (by decide +kernel)) ggL_law_X5_thrown
set_option maxRecDepth 20000 in
theorem gL_law_L_clear : GoodIn wsL_law (va_wsS RL 132 yL_clear wsL_clear) := goodIn_app (goodIn_of _ (by decide +kernel)) ggL_law_L_clear
set_option maxRecDepth 20000 in
theorem gL_law_X5_clear : GoodIn wsL_law (wsV RL 135 RX5 yX5_clear wsX5_clear) := goodIn_app (goodIn_of _ (by decide +kernel)) ggL_law_X5_clear
set_option maxRecDepth 20000 in
theorem gL_law_L_copy : GoodIn wsL_law (va_wsS RL 136 yL_copy wsL_copy) := goodIn_app (goodIn_of _ (by decide +kernel)) ggL_law_L_copy
set_option maxRecDepth 20000 in
theorem gL_law_X5_copy : GoodIn wsL_law (wsV RL 139 RX5 yX5_copy wsX5_copy) := goodIn_app (goodIn_of _ (by decide +kernel)) ggL_law_X5_copy
set_option maxRecDepth 20000 in
theorem gL_law_L_lay : GoodIn wsL_law (va_wsS RL 140 yL_lay wsL_lay) := goodIn_app (goodIn_of _ (by decide +kernel)) ggL_law_L_lay
set_option maxRecDepth 20000 in
theorem gL_law_X5_lay : GoodIn wsL_law (wsV RL 143 RX5 yX5_lay wsX5_lay) := goodIn_app (goodIn_of _ (by decide +kernel)) ggL_law_X5_lay
set_option maxRecDepth 20000 in
theorem gL_law_L_cut : GoodIn wsL_law (va_wsS RL 144 yL_cut wsL_cut) := goodIn_app (goodIn_of _ (by decide +kernel)) ggL_law_L_cut
set_option maxRecDepth 20000 in
theorem gL_law_X5_cut : GoodIn wsL_law (wsV RL 146 RX5 yX5_cut wsX5_cut) := goodIn_app (goodIn_of _ (by decide +kernel)) ggL_law_X5_cut
set_option maxRecDepth 20000 in
theorem gL_law_L_turn : GoodIn wsL_law (va_wsS RL 147 yL_turn wsL_turn) := goodIn_app (goodIn_of _ (by decide +kernel)) ggL_law_L_turn
set_option maxRecDepth 20000 in
theorem gL_law_X5_turn : GoodIn wsL_law (wsV RL 149 RX5 yX5_turn wsX5_turn) := goodIn_app (goodIn_of _ (by decide +kernel)) ggL_law_X5_turn
set_option maxRecDepth 20000 in
theorem gL_law_L_text : GoodIn wsL_law (va_wsS RL 150 yL_text wsL_text) := goodIn_app (goodIn_of _ (by decide +kernel)) ggL_law_L_text
set_option maxRecDepth 20000 in
theorem gL_law_X5_text : GoodIn wsL_law (wsV RL 152 RX5 yX5_text wsX5_text) := goodIn_app (goodIn_of _ (by decide +kernel)) ggL_law_X5_text
set_option maxRecDepth 20000 in
theorem gL_law_J0_equals_9ea2d : GoodIn wsL_law (wsV RL 153 RJ0 yJ0_equals_9ea2d wsJ0_equals_9ea2d) := goodIn_app (goodIn_of _ (by decide +kernel)) ggL_law_J0_equals_9ea2d
set_option maxRecDepth 20000 in
theorem gL_law_L_order : GoodIn wsL_law (va_wsS RL 159 yL_order wsL_order) := goodIn_app (goodIn_of _ (by decide +kernel)) ggL_law_L_order
set_option maxRecDepth 20000 in
theorem gL_law_X5_order : GoodIn wsL_law (wsV RL 161 RX5 yX5_order wsX5_order) := goodIn_app (goodIn_of _ (by decide +kernel)) ggL_law_X5_order
set_option maxRecDepth 20000 in
theorem gL_law_L_count : GoodIn wsL_law (va_wsS RL 162 yL_count wsL_count) := goodIn_app (goodIn_of _ (by decide +kernel)) ggL_law_L_count
set_option maxRecDepth 20000 in
theorem gL_law_X5_count : GoodIn wsL_law (wsV RL 164 RX5 yX5_count wsX5_count) := goodIn_app (goodIn_of _ (by decide +kernel)) ggL_law_X5_count
set_option maxRecDepth 20000 in
theorem gL_law_L_find : GoodIn wsL_law (va_wsS RL 165 yL_find wsL_find) := goodIn_app (goodIn_of _ (by decide +kernel)) ggL_law_L_find
set_option maxRecDepth 20000 in
theorem gL_law_X5_find : GoodIn wsL_law (wsV RL 168 RX5 yX5_find wsX5_find) := goodIn_app (goodIn_of _ (by decide +kernel)) ggL_law_X5_find
set_option maxRecDepth 20000 in
theorem gL_law_L_rule : GoodIn wsL_law (va_wsS RL 169 yL_rule wsL_rule) := goodIn_app (goodIn_of _ (by decide +kernel)) ggL_law_L_rule
set_option maxRecDepth 20000 in
theorem gL_law_X5_rule : GoodIn wsL_law (wsV RL 171 RX5 yX5_rule wsX5_rule) := goodIn_app (goodIn_of _ (by decide +kernel)) ggL_law_X5_rule
set_option maxRecDepth 20000 in
theorem gL_law_L_falling : GoodIn wsL_law (va_wsS RL 172 yL_falling wsL_falling) := goodIn_app (goodIn_of _ (by decide +kernel)) ggL_law_L_falling
set_option maxRecDepth 20000 in
theorem gL_law_X5_falling : GoodIn wsL_law (wsV RL 174 RX5 yX5_falling wsX5_falling) := goodIn_app (goodIn_of _ (by decide +kernel)) ggL_law_X5_falling
set_option maxRecDepth 20000 in
theorem gL_law_L_drop : GoodIn wsL_law (va_wsS RL 175 yL_drop wsL_drop) := goodIn_app (goodIn_of _ (by decide +kernel)) ggL_law_L_drop
set_option maxRecDepth 20000 in
theorem gL_law_X5_drop : GoodIn wsL_law (wsV RL 177 RX5 yX5_drop wsX5_drop) := goodIn_app (goodIn_of _ (by decide +kernel)) ggL_law_X5_drop
set_option maxRecDepth 20000 in
theorem gL_law_X3_noRules : GoodIn wsL_law (wsV RL 178 RX3 yX3_noRules wsX3_noRules) := goodIn_app (goodIn_of _ (by decide +kernel)) ggL_law_X3_noRules
set_option maxRecDepth 20000 in
theorem gL_law_X5_noRules : GoodIn wsL_law (wsV RL 181 RX5 yX5_noRules wsX5_noRules) := goodIn_app (goodIn_of _ (by decide +kernel)) ggL_law_X5_noRules
set_option maxRecDepth 20000 in
theorem gL_law_L_flip : GoodIn wsL_law (va_wsS RL 182 yL_flip wsL_flip) := goodIn_app (goodIn_of _ (by decide +kernel)) ggL_law_L_flip
set_option maxRecDepth 20000 in
theorem gL_law_X5_flip : GoodIn wsL_law (wsV RL 184 RX5 yX5_flip wsX5_flip) := goodIn_app (goodIn_of _ (by decide +kernel)) ggL_law_X5_flip
set_option maxRecDepth 20000 in
theorem gL_law_L_side : GoodIn wsL_law (va_wsS RL 185 yL_side wsL_side) := goodIn_app (goodIn_of _ (by decide +kernel)) ggL_law_L_side
set_option maxRecDepth 20000 in
theorem gL_law_X5_side : GoodIn wsL_law (wsV RL 187 RX5 yX5_side wsX5_side) := goodIn_app (goodIn_of _ (by decide +kernel)) ggL_law_X5_side
set_option maxRecDepth 20000 in
theorem gL_law_X3_rules : GoodIn wsL_law (wsV RL 188 RX3 yX3_rules wsX3_rules) := goodIn_app (goodIn_of _ (by decide +kernel)) ggL_law_X3_rules
set_option maxRecDepth 20000 in
theorem gL_law_X5_rules : GoodIn wsL_law (wsV RL 191 RX5 yX5_rules wsX5_rules) := goodIn_app (goodIn_of _ (by decide +kernel)) ggL_law_X5_rules
set_option maxRecDepth 20000 in
theorem gL_law_L_ruleText : GoodIn wsL_law (va_wsS RL 192 yL_ruleText wsL_ruleText) := goodIn_app (goodIn_of _ (by decide +kernel)) ggL_law_L_ruleText
set_option maxRecDepth 20000 in
theorem gL_law_X5_ruleText : GoodIn wsL_law (wsV RL 194 RX5 yX5_ruleText wsX5_ruleText) := goodIn_app (goodIn_of _ (by decide +kernel)) ggL_law_X5_ruleText
set_option maxRecDepth 20000 in
theorem gL_law_L_falls : GoodIn wsL_law (va_wsS RL 195 yL_falls wsL_falls) := goodIn_app (goodIn_of _ (by decide +kernel)) ggL_law_L_falls
set_option maxRecDepth 20000 in
theorem gL_law_X5_falls : GoodIn wsL_law (wsV RL 197 RX5 yX5_falls wsX5_falls) := goodIn_app (goodIn_of _ (by decide +kernel)) ggL_law_X5_falls
set_option maxRecDepth 20000 in
theorem gL_law_X3_areFalling : GoodIn wsL_law (wsV RL 198 RX3 yX3_areFalling wsX3_areFalling) := goodIn_app (goodIn_of _ (by decide +kernel)) ggL_law_X3_areFalling
set_option maxRecDepth 20000 in
theorem gL_law_X5_areFalling : GoodIn wsL_law (wsV RL 202 RX5 yX5_areFalling wsX5_areFalling) := goodIn_app (goodIn_of _ (by decide +kernel)) ggL_law_X5_areFalling
set_option maxRecDepth 20000 in
theorem gL_law_L_step : GoodIn wsL_law (va_wsS RL 203 yL_step wsL_step) := goodIn_app (goodIn_of _ (by decide +kernel)) ggL_law_L_step
set_option maxRecDepth 20000 in
theorem gL_law_X5_step : GoodIn wsL_law (wsV RL 205 RX5 yX5_step wsX5_step) := goodIn_app (goodIn_of _ (by decide +kernel)) ggL_law_X5_step
set_option maxRecDepth 20000 in
theorem gL_law_L_run : GoodIn wsL_law (va_wsS RL 206 yL_run wsL_run) := goodIn_app (goodIn_of _ (by decide +kernel)) ggL_law_L_run
set_option maxRecDepth 20000 in
theorem gL_law_X5_run : GoodIn wsL_law (wsV RL 208 RX5 yX5_run wsX5_run) := goodIn_app (goodIn_of _ (by decide +kernel)) ggL_law_X5_run
set_option maxRecDepth 20000 in
theorem gL_law_L_pick : GoodIn wsL_law (va_wsS RL 209 yL_pick wsL_pick) := goodIn_app (goodIn_of _ (by decide +kernel)) ggL_law_L_pick
set_option maxRecDepth 20000 in
theorem gL_law_X5_pick : GoodIn wsL_law (wsV RL 211 RX5 yX5_pick wsX5_pick) := goodIn_app (goodIn_of _ (by decide +kernel)) ggL_law_X5_pick
set_option maxRecDepth 20000 in
theorem gL_law_L_unwind : GoodIn wsL_law (va_wsS RL 212 yL_unwind wsL_unwind) := goodIn_app (goodIn_of _ (by decide +kernel)) ggL_law_L_unwind
set_option maxRecDepth 20000 in
theorem gL_law_X5_unwind : GoodIn wsL_law (wsV RL 214 RX5 yX5_unwind wsX5_unwind) := goodIn_app (goodIn_of _ (by decide +kernel)) ggL_law_X5_unwind
set_option maxRecDepth 20000 in
theorem gL_law_L_spots : GoodIn wsL_law (va_wsS RL 215 yL_spots wsL_spots) := goodIn_app (goodIn_of _ (by decide +kernel)) ggL_law_L_spots
set_option maxRecDepth 20000 in
theorem gL_law_X5_spots : GoodIn wsL_law (wsV RL 217 RX5 yX5_spots wsX5_spots) := goodIn_app (goodIn_of _ (by decide +kernel)) ggL_law_X5_spots
set_option maxRecDepth 20000 in
theorem gL_law_L_spot : GoodIn wsL_law (va_wsS RL 218 yL_spot wsL_spot) := goodIn_app (goodIn_of _ (by decide +kernel)) ggL_law_L_spot
set_option maxRecDepth 20000 in
theorem gL_law_X5_spot : GoodIn wsL_law (wsV RL 220 RX5 yX5_spot wsX5_spot) := goodIn_app (goodIn_of _ (by decide +kernel)) ggL_law_X5_spot
set_option maxRecDepth 20000 in
theorem gL_law_L_isEnd : GoodIn wsL_law (va_wsS RL 221 yL_isEnd wsL_isEnd) := goodIn_app (goodIn_of _ (by decide +kernel)) ggL_law_L_isEnd
set_option maxRecDepth 20000 in
theorem gL_law_X5_isEnd : GoodIn wsL_law (wsV RL 223 RX5 yX5_isEnd wsX5_isEnd) := goodIn_app (goodIn_of _ (by decide +kernel)) ggL_law_X5_isEnd
set_option maxRecDepth 20000 in
theorem gL_law_L_form : GoodIn wsL_law (va_wsS RL 224 yL_form wsL_form) := goodIn_app (goodIn_of _ (by decide +kernel)) ggL_law_L_form
set_option maxRecDepth 20000 in
theorem gL_law_X5_form : GoodIn wsL_law (wsV RL 226 RX5 yX5_form wsX5_form) := goodIn_app (goodIn_of _ (by decide +kernel)) ggL_law_X5_form
set_option maxRecDepth 20000 in
theorem gL_law_L_told : GoodIn wsL_law (va_wsS RL 227 yL_told wsL_told) := goodIn_app (goodIn_of _ (by decide +kernel)) ggL_law_L_told
set_option maxRecDepth 20000 in
theorem gL_law_X5_told : GoodIn wsL_law (wsV RL 229 RX5 yX5_told wsX5_told) := goodIn_app (goodIn_of _ (by decide +kernel)) ggL_law_X5_told
set_option maxRecDepth 20000 in
theorem gL_law_X3_peaks : GoodIn wsL_law (wsV RL 230 RX3 yX3_peaks wsX3_peaks) := goodIn_app (goodIn_of _ (by decide +kernel)) ggL_law_X3_peaks
set_option maxRecDepth 20000 in
theorem gL_law_X5_peaks : GoodIn wsL_law (wsV RL 233 RX5 yX5_peaks wsX5_peaks) := goodIn_app (goodIn_of _ (by decide +kernel)) ggL_law_X5_peaks
set_option maxRecDepth 20000 in
theorem gL_law_X3_peak : GoodIn wsL_law (wsV RL 234 RX3 yX3_peak wsX3_peak) := goodIn_app (goodIn_of _ (by decide +kernel)) ggL_law_X3_peak
set_option maxRecDepth 20000 in
theorem gL_law_X5_peak : GoodIn wsL_law (wsV RL 237 RX5 yX5_peak wsX5_peak) := goodIn_app (goodIn_of _ (by decide +kernel)) ggL_law_X5_peak
set_option maxRecDepth 20000 in
theorem gL_law_L_meets : GoodIn wsL_law (va_wsS RL 238 yL_meets wsL_meets) := goodIn_app (goodIn_of _ (by decide +kernel)) ggL_law_L_meets
set_option maxRecDepth 20000 in
theorem gL_law_X5_meets : GoodIn wsL_law (wsV RL 240 RX5 yX5_meets wsX5_meets) := goodIn_app (goodIn_of _ (by decide +kernel)) ggL_law_X5_meets
set_option maxRecDepth 20000 in
theorem gL_law_X3_unmet : GoodIn wsL_law (wsV RL 241 RX3 yX3_unmet wsX3_unmet) := goodIn_app (goodIn_of _ (by decide +kernel)) ggL_law_X3_unmet
set_option maxRecDepth 20000 in
theorem gL_law_X5_unmet : GoodIn wsL_law (wsV RL 244 RX5 yX5_unmet wsX5_unmet) := goodIn_app (goodIn_of _ (by decide +kernel)) ggL_law_X5_unmet
set_option maxRecDepth 20000 in
theorem gL_law_X3_complete : GoodIn wsL_law (wsV RL 245 RX3 yX3_complete wsX3_complete) := goodIn_app (goodIn_of _ (by decide +kernel)) ggL_law_X3_complete
set_option maxRecDepth 20000 in
theorem gL_law_X5_complete : GoodIn wsL_law (wsV RL 248 RX5 yX5_complete wsX5_complete) := goodIn_app (goodIn_of _ (by decide +kernel)) ggL_law_X5_complete
set_option maxRecDepth 20000 in
theorem gL_law_X3_tidy : GoodIn wsL_law (wsV RL 249 RX3 yX3_tidy wsX3_tidy) := goodIn_app (goodIn_of _ (by decide +kernel)) ggL_law_X3_tidy
set_option maxRecDepth 20000 in
theorem gL_law_X5_tidy : GoodIn wsL_law (wsV RL 252 RX5 yX5_tidy wsX5_tidy) := goodIn_app (goodIn_of _ (by decide +kernel)) ggL_law_X5_tidy
set_option maxRecDepth 20000 in
theorem gL_law_L_house : GoodIn wsL_law (va_wsS RL 253 yL_house wsL_house) := goodIn_app (goodIn_of _ (by decide +kernel)) ggL_law_L_house
set_option maxRecDepth 20000 in
theorem gL_law_X5_house : GoodIn wsL_law (wsV RL 255 RX5 yX5_house wsX5_house) := goodIn_app (goodIn_of _ (by decide +kernel)) ggL_law_X5_house
set_option maxRecDepth 20000 in
theorem gL_law_X3_knock : GoodIn wsL_law (wsV RL 256 RX3 yX3_knock wsX3_knock) := goodIn_app (goodIn_of _ (by decide +kernel)) ggL_law_X3_knock
set_option maxRecDepth 20000 in
theorem gL_law_X5_knock : GoodIn wsL_law (wsV RL 259 RX5 yX5_knock wsX5_knock) := goodIn_app (goodIn_of _ (by decide +kernel)) ggL_law_X5_knock
set_option maxRecDepth 20000 in
theorem gL_law_X3_isSound : GoodIn wsL_law (wsV RL 260 RX3 yX3_isSound wsX3_isSound) := goodIn_app (goodIn_of _ (by decide +kernel)) ggL_law_X3_isSound
set_option maxRecDepth 20000 in
theorem gL_law_X5_isSound : GoodIn wsL_law (wsV RL 263 RX5 yX5_isSound wsX5_isSound) := goodIn_app (goodIn_of _ (by decide +kernel)) ggL_law_X5_isSound
set_option maxRecDepth 20000 in
theorem gL_law_X3_digest : GoodIn wsL_law (wsV RL 264 RX3 yX3_digest wsX3_digest) := goodIn_app (goodIn_of _ (by decide +kernel)) ggL_law_X3_digest
set_option maxRecDepth 20000 in
theorem gL_law_X5_digest : GoodIn wsL_law (wsV RL 268 RX5 yX5_digest wsX5_digest) := goodIn_app (goodIn_of _ (by decide +kernel)) ggL_law_X5_digest
