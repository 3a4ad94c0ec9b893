set_option maxRecDepth 20000 in
theorem ggX12_sentence_X12_bad : GoodIn wsX12_sentence wsX12_bad := goodIn_r _ [78, 5, 17, 29, 4, 115, 116, 117, 118, 119, 120, 121, 122, 123, 124, 125, 126, 127, 128, 129, 130, 131, 132, 133, 134, 135, 136, 137, 138, 139, 140, 141, 142, 143, 144, 145, 146, 147, 148, 149, 150, 151, 152, 153, 154, 155, 156, 157, 158, 159, 160, 161] rfl (by decide +kernel)
set_option maxRecDepth 20000 in
theorem gX12_sentence_X12_bad : GoodIn wsX12_sentence (wsV RX12 72 RX12 yX12_bad wsX12_bad) := goodIn_app (goodIn_of _ (by decide +kernel)) ggX12_sentence_X12_bad
