/-! the JDK methods of String constants -/
abbrev ms_cSL : ByteArray := prog_17_method_54_code
abbrev ms_cCo : ByteArray := prog_17_method_152_code
abbrev ms_cSC : ByteArray := prog_17_method_56_code
abbrev ms_cLa : ByteArray := prog_17_method_154_code
abbrev ms_cLC : ByteArray := prog_18_method_2_code
abbrev ms_cCI : ByteArray := prog_17_method_155_code
abbrev ms_cPI : ByteArray := prog_21_method_11_code
