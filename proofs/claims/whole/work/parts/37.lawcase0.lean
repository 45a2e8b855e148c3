/-! ===== the cases of the law: words ===== -/
theorem lw_c100 : (.constantLong RL 100 (4294967295) : Cond) ∈ wsL_law2 := List.mem_of_getElem? (i := 7) rfl
theorem gL2_L_add : GoodIn wsL_law2 (va_wsS RL 90 yL_add wsL_add) := goodIn_l gL_law_L_add
theorem gL2_L_poke : GoodIn wsL_law2 (va_wsS RL 102 yL_poke wsL_poke) := goodIn_l gL_law_L_poke
theorem gL2_L_place : GoodIn wsL_law2 (va_wsS RL 106 yL_place wsL_place) := goodIn_l gL_law_L_place
theorem gL2_L_sign : GoodIn wsL_law2 (va_wsS RL 110 yL_sign wsL_sign) := goodIn_l gL_law_L_sign
theorem gL2_L_holds : GoodIn wsL_law2 (va_wsS RL 114 yL_holds wsL_holds3) := goodIn_l gL_law_L_holds
theorem gL2_L_span : GoodIn wsL_law2 (va_wsS RL 118 yL_span wsL_span3) := goodIn_l gL_law_L_span
theorem gL2_L_tell : GoodIn wsL_law2 (va_wsS RL 122 yL_tell wsL_tell3) := goodIn_l gL_law_L_tell
theorem gL2_L_chain : GoodIn wsL_law2 (va_wsS RL 126 yL_chain wsL_chain3) := goodIn_l gL_law_L_chain
theorem gL2_L_change : GoodIn wsL_law2 (va_wsS RL 130 yL_change wsL_change) := goodIn_l gL_law_L_change
theorem gL2_L_allow : GoodIn wsL_law2 (va_wsS RL 134 yL_allow wsL_allow3) := goodIn_l gL_law_L_allow
theorem gL2_L_lock : GoodIn wsL_law2 (va_wsS RL 137 yL_lock wsL_lock3) := goodIn_l gL_law_L_lock
theorem gL2_L_certify : GoodIn wsL_law2 (va_wsS RL 140 yL_certify wsL_certify3) := goodIn_l gL_law_L_certify
theorem gL2_L_since : GoodIn wsL_law2 (va_wsS RL 143 yL_since wsL_since3) := goodIn_l gL_law_L_since
theorem gL2_L_behind : GoodIn wsL_law2 (va_wsS RL 149 yL_behind wsL_behind3) := goodIn_l gL_law_L_behind
theorem gL2_L_stamp : GoodIn wsL_law2 (va_wsS RL 152 yL_stamp wsL_stamp) := goodIn_l gL_law_L_stamp
theorem gL2_L_stamped : GoodIn wsL_law2 (va_wsS RL 156 yL_stamped wsL_stamped) := goodIn_l gL_law_L_stamped
theorem gL2_X6_add : GoodIn wsL_law2 (wsV RL 95 RX6 yX6_add wsX6_add) := goodIn_l gL_law_X6_add
theorem gL2_X6_poke : GoodIn wsL_law2 (wsV RL 105 RX6 yX6_poke wsX6_poke) := goodIn_l gL_law_X6_poke
theorem gL2_X6_place : GoodIn wsL_law2 (wsV RL 109 RX6 yX6_place wsX6_place) := goodIn_l gL_law_X6_place
theorem gL2_X6_sign : GoodIn wsL_law2 (wsV RL 113 RX6 yX6_sign wsX6_sign) := goodIn_l gL_law_X6_sign
theorem gL2_X6_holds : GoodIn wsL_law2 (wsV RL 117 RX6 yX6_holds wsX6_holds) := goodIn_l gL_law_X6_holds
theorem gL2_X6_span : GoodIn wsL_law2 (wsV RL 121 RX6 yX6_span wsX6_span) := goodIn_l gL_law_X6_span
theorem gL2_X6_tell : GoodIn wsL_law2 (wsV RL 125 RX6 yX6_tell wsX6_tell) := goodIn_l gL_law_X6_tell
theorem gL2_X6_chain : GoodIn wsL_law2 (wsV RL 129 RX6 yX6_chain wsX6_chain) := goodIn_l gL_law_X6_chain
theorem gL2_X6_change : GoodIn wsL_law2 (wsV RL 133 RX6 yX6_change wsX6_change) := goodIn_l gL_law_X6_change
theorem gL2_X6_allow : GoodIn wsL_law2 (wsV RL 136 RX6 yX6_allow wsX6_allow) := goodIn_l gL_law_X6_allow
theorem gL2_X6_lock : GoodIn wsL_law2 (wsV RL 139 RX6 yX6_lock wsX6_lock) := goodIn_l gL_law_X6_lock
theorem gL2_X6_certify : GoodIn wsL_law2 (wsV RL 142 RX6 yX6_certify wsX6_certify) := goodIn_l gL_law_X6_certify
theorem gL2_X6_since : GoodIn wsL_law2 (wsV RL 145 RX6 yX6_since wsX6_since) := goodIn_l gL_law_X6_since
theorem gL2_X6_digest : GoodIn wsL_law2 (wsV RL 148 RX6 yX6_digest wsX6_digest) := goodIn_l gL_law_X6_digest
theorem gL2_X6_behind : GoodIn wsL_law2 (wsV RL 151 RX6 yX6_behind wsX6_behind) := goodIn_l gL_law_X6_behind
theorem gL2_X6_stamp : GoodIn wsL_law2 (wsV RL 155 RX6 yX6_stamp wsX6_stamp) := goodIn_l gL_law_X6_stamp
theorem gL2_X6_stamped : GoodIn wsL_law2 (wsV RL 158 RX6 yX6_stamped wsX6_stamped) := goodIn_l gL_law_X6_stamped
theorem gL2_X6_thrown : GoodIn wsL_law2 (wsV RL 96 RX6 yX6_thrown wsX6_thrown) := goodIn_l gL_law_X6_thrown
theorem gL2_L_digest : GoodIn wsL_law2 (va_wsS RL 146 yL_digest wsL_digest23) := by
  intro w hw
  have h0 : GoodIn wsL_law (va_wsS RL 146 yL_digest wsL_digest3) := gL_law_L_digest
  have hw : w ∈ va_wsS RL 146 yL_digest wsL_digest3 ++ wAio := by
    unfold va_wsS wsL_digest23 at hw
    rw [← List.append_assoc] at hw
    exact hw
  rcases List.mem_append.mp hw with h | h
  · exact ⟨List.mem_append_left _ (h0 w h).1, (h0 w h).2⟩
  · exact ⟨List.mem_append_right _ h, good_of_word (List.all_eq_true.mp wAio_good w h)⟩
