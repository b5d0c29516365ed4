abbrev cL_law : ByteArray := code
