/-! ===== digest: the words of its own throw ===== -/
def wAio : List Cond := (vx_atS RX5 213 "java/lang/ArrayIndexOutOfBoundsException" ["java/lang/IndexOutOfBoundsException", "java/lang/RuntimeException", "java/lang/Exception"]).filter goodWord
def wsX5_digest2 : List Cond := wsX5_digest ++ wAio
def wsL_digest2 : List Cond := wsL_digest ++ wAio
theorem goodIn_l {big ex ws : List Cond} (h : GoodIn big ws) : GoodIn (big ++ ex) ws := fun w hw => ⟨List.mem_append_left _ (h w hw).1, (h w hw).2⟩
theorem wAio_tbl : ∀ w ∈ wAio, w ∈ lw_tbl := by decide +kernel
theorem wAio_good : wAio.all goodWord = true := by decide +kernel
theorem gX5_digest2_X5_signatureAt : GoodIn wsX5_digest2 (wsV RX5 136 RX5 yX5_signatureAt wsX5_signatureAt) := goodIn_l gX5_digest_X5_signatureAt
theorem gL_digest2_X5_digest : GoodIn wsL_digest2 (wsV RL 68 RX5 yX5_digest wsX5_digest2) := by
  intro w hw
  have h0 : GoodIn wsL_digest (wsV RL 68 RX5 yX5_digest wsX5_digest) := gL_digest_X5_digest
  have hw : w ∈ wsV RL 68 RX5 yX5_digest wsX5_digest ++ wAio := by
    unfold wsV wsX5_digest2 at hw
    rw [← List.append_assoc] at hw
    exact hw
  rcases List.mem_append.mp hw with h | h
  · exact ⟨List.mem_append_left _ (h0 w h).1, (h0 w h).2⟩
  · exact ⟨List.mem_append_right _ h, good_of_word (List.all_eq_true.mp wAio_good w h)⟩
